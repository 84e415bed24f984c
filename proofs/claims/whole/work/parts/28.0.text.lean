/-! reading a text: the class's way, as steps on a list of signs -/
def tx_lev (b : Int32) : Nat := if b = 124 then 1 else if b = 38 then 2 else if b = 60 ∨ b = 61 ∨ b = 62 then 3 else if b = 43 ∨ b = 45 then 4 else if b = 42 ∨ b = 47 ∨ b = 37 then 5 else 0
def tx_dig (b : Int32) : Bool := decide (48 ≤ b) && decide (b ≤ 57)
/-- which name of a use a byte is -/
def tx_nm (u : Nat) (b : Int32) : Option Nat := if u = 0 then (if b = 103 then some 0 else if b = 115 then some 1 else if b = 110 then some 2 else none) else (if b = 100 then some 0 else if b = 119 then some 1 else if b = 111 then some 2 else none)
def tx_num (B : Nat → Int32) (tp : Nat) : Nat → Nat → Nat → Nat × Nat
  | 0, v, p => (v, p)
  | k + 1, v, p => if p < tp ∧ tx_dig (B p) = true then tx_num B tp k (v * 10 + ((B p).toNatClampNeg - 48)) (p + 1) else (v, p)
/-- how many are open -/
def tx_op : List Int32 → Nat
  | [] => 0
  | s :: r => if s = 33 ∨ s = 40 then tx_op r + 1 else tx_op r
def tx_cn : List Int32 → List Int32 → List Int32 × List Int32
  | [], c => (c, [])
  | s :: r, c => if s = 33 then tx_cn r (c ++ [-33]) else (c, s :: r)
def tx_so (l : Nat) : List Int32 → List Int32 → List Int32 × List Int32
  | [], c => (c, [])
  | s :: r, c => if l ≤ tx_lev s then tx_so l r (c ++ [-s]) else (c, s :: r)
/-- wanting, code, signs, place -/
abbrev tx_S : Type := Bool × List Int32 × List Int32 × Nat
def tx_dn (c s : List Int32) (p : Nat) : tx_S := (false, (tx_cn s c).1, (tx_cn s c).2, p)
def tx_pt (B : Nat → Int32) (tp u : Nat) (c s : List Int32) (p : Nat) : Option tx_S :=
  if tx_dig (B p) = true then some (tx_dn (c ++ [nI (tx_num B tp 4 0 p).1]) s (tx_num B tp 4 0 p).2)
  else match tx_nm u (B p) with
    | some k => some (tx_dn (c ++ [-1 - nI k]) s (p + 1))
    | none => if (B p = 33 ∨ B p = 40) ∧ tx_op s < 5 then some (true, c, B p :: s, p + 1) else none
def tx_hd (s : List Int32) : Int32 := s.headD 0
def tx_sg (B : Nat → Int32) (c s : List Int32) (p : Nat) : Option tx_S :=
  if B p = 41 then (if tx_hd (tx_so 1 s c).2 = 40 then some (tx_dn (tx_so 1 s c).1 (tx_so 1 s c).2.tail (p + 1)) else none)
  else if tx_lev (B p) = 0 then none
  else if tx_lev (B p) = 3 then (if tx_lev (tx_hd (tx_so 4 s c).2) = 3 then none else some (true, (tx_so 4 s c).1, B p :: (tx_so 4 s c).2, p + 1))
  else some (true, (tx_so (tx_lev (B p)) s c).1, B p :: (tx_so (tx_lev (B p)) s c).2, p + 1)
def tx_st (B : Nat → Int32) (tp u : Nat) (S : tx_S) : Option tx_S := if S.1 = true then tx_pt B tp u S.2.1 S.2.2.1 S.2.2.2 else tx_sg B S.2.1 S.2.2.1 S.2.2.2
/-- the end: the place of the fault, or the code -/
def tx_ew (tp : Nat) (S : tx_S) : Sum Nat (List Int32) := if S.1 = true then Sum.inl tp else if (tx_so 1 S.2.2.1 S.2.1).2 = [] then Sum.inr (tx_so 1 S.2.2.1 S.2.1).1 else Sum.inl tp
def tx_run (B : Nat → Int32) (tp u : Nat) : Nat → tx_S → Sum Nat (List Int32)
  | 0, S => tx_ew tp S
  | n + 1, S => if S.2.2.2 < tp then (match tx_st B tp u S with
      | none => Sum.inl S.2.2.2
      | some S2 => tx_run B tp u n S2) else tx_ew tp S
def tx_is (B : Nat → Int32) (tp u : Nat) (S : tx_S) (r : Sum Nat (List Int32)) : Prop := ∀ n, tp ≤ n + S.2.2.2 → tx_run B tp u n S = r
def tx_to (B : Nat → Int32) (tp u : Nat) (S S2 : tx_S) : Prop := ∀ r, tx_is B tp u S2 r → tx_is B tp u S r
section Tx
variable {B : Nat → Int32} {tp u : Nat}
theorem tx_to_refl (S : tx_S) : tx_to B tp u S S := fun _ h => h
theorem tx_to_tr {S S2 S3 : tx_S} (h1 : tx_to B tp u S S2) (h2 : tx_to B tp u S2 S3) : tx_to B tp u S S3 := fun r h => h1 r (h2 r h)
theorem tx_to_st {S S2 : tx_S} (h : tx_st B tp u S = some S2) (hp : S.2.2.2 < tp) (h2 : S.2.2.2 < S2.2.2.2) : tx_to B tp u S S2 := fun r hr n hn => by
  cases n with
  | zero => omega
  | succ n =>
    show (if S.2.2.2 < tp then _ else _) = r
    rw [if_pos hp, h]
    exact hr n (by omega)
theorem tx_is_no {S : tx_S} (h : tx_st B tp u S = none) (hp : S.2.2.2 < tp) : tx_is B tp u S (Sum.inl S.2.2.2) := fun n hn => by
  cases n with
  | zero => omega
  | succ n =>
    show (if S.2.2.2 < tp then _ else _) = _
    rw [if_pos hp, h]
theorem tx_is_ew {S : tx_S} (hp : tp ≤ S.2.2.2) : tx_is B tp u S (tx_ew tp S) := fun n hn => by
  cases n with
  | zero => rfl
  | succ n =>
    show (if S.2.2.2 < tp then _ else _) = _
    rw [if_neg (by omega)]
theorem tx_so_so {l m : Nat} (hlm : l ≤ m) : ∀ (s c : List Int32), tx_so l (tx_so m s c).2 (tx_so m s c).1 = tx_so l s c
  | [], c => rfl
  | s :: r, c => by
    by_cases h : m ≤ tx_lev s
    · have e1 : tx_so m (s :: r) c = tx_so m r (c ++ [-s]) := if_pos h
      have e2 : tx_so l (s :: r) c = tx_so l r (c ++ [-s]) := if_pos (Nat.le_trans hlm h)
      rw [e1, e2]
      exact tx_so_so hlm r _
    · have e1 : tx_so m (s :: r) c = (c, s :: r) := if_neg h
      rw [e1]
theorem tx_so_top {l : Nat} {s c : List Int32} (h : tx_lev (tx_hd s) < l) : tx_so l s c = (c, s) := by
  cases s with
  | nil => rfl
  | cons s r =>
    unfold tx_so
    exact if_neg (by have : tx_hd (s :: r) = s := rfl; rw [this] at h; omega)
theorem tx_so_push {l : Nat} {b : Int32} {s c : List Int32} (h : l ≤ tx_lev b) (h2 : tx_lev (tx_hd s) < l) : tx_so l (b :: s) c = (c ++ [-b], s) := by
  have e : tx_so l (b :: s) c = tx_so l s (c ++ [-b]) := if_pos h
  rw [e]
  exact tx_so_top h2
theorem tx_cn_no {s c : List Int32} (h : tx_hd s ≠ 33) : tx_cn s c = (c, s) := by
  cases s with
  | nil => rfl
  | cons s r => exact if_neg h
theorem tx_lev_33 : tx_lev 33 = 0 := by decide
theorem tx_lev_40 : tx_lev 40 = 0 := by decide
theorem tx_op_lev {b : Int32} {s : List Int32} (h : 0 < tx_lev b) : tx_op (b :: s) = tx_op s := by
  have h1 : ¬ (b = 33 ∨ b = 40) := by
    rintro (rfl | rfl)
    · rw [tx_lev_33] at h; omega
    · rw [tx_lev_40] at h; omega
  exact if_neg h1
theorem tx_op_o {b : Int32} {s : List Int32} (h : b = 33 ∨ b = 40) : tx_op (b :: s) = tx_op s + 1 := if_pos h
theorem tx_num_le : ∀ (k v p : Nat), p ≤ tp → p ≤ (tx_num B tp k v p).2 ∧ (tx_num B tp k v p).2 ≤ tp
  | 0, v, p, h => ⟨Nat.le_refl _, h⟩
  | k + 1, v, p, h => by
    unfold tx_num
    split
    · have := tx_num_le k (v * 10 + ((B p).toNatClampNeg - 48)) (p + 1) (by omega)
      exact ⟨by omega, this.2⟩
    · exact ⟨Nat.le_refl _, h⟩
theorem tx_num_lt {v p : Nat} {k : Nat} (hp : p < tp) (hd : tx_dig (B p) = true) : p < (tx_num B tp (k + 1) v p).2 := by
  have e : tx_num B tp (k + 1) v p = tx_num B tp k (v * 10 + ((B p).toNatClampNeg - 48)) (p + 1) := if_pos ⟨hp, hd⟩
  rw [e]
  have := (tx_num_le (B := B) (tp := tp) k (v * 10 + ((B p).toNatClampNeg - 48)) (p + 1) (by omega)).1
  omega
theorem tx_dig_n {b : Int32} (h : tx_dig b = true) : ∃ q, 48 ≤ q ∧ q ≤ 57 ∧ b = nI q := by
  unfold tx_dig at h
  rw [Bool.and_eq_true, decide_eq_true_eq, decide_eq_true_eq] at h
  obtain ⟨k, h1, h2, e⟩ := (pu_btw (v := b) (a := 48) (m := 57) (by omega) (by omega)).mp h
  exact ⟨k, h1, h2, e⟩
theorem tx_num_b : ∀ (k v p : Nat), v * 10 ^ k + 10 ^ k ≤ 10000 → (tx_num B tp k v p).1 < 10000
  | 0, v, p, h => by
    show v < 10000
    omega
  | k + 1, v, p, h => by
    have hk : 0 < 10 ^ k := Nat.pow_pos (by decide)
    unfold tx_num
    split
    · rename_i hd
      obtain ⟨q, h1, h2, e⟩ := tx_dig_n hd.2
      rw [e, nI_clamp (by omega)]
      refine tx_num_b k _ _ ?_
      have e1 : 10 ^ (k + 1) = 10 * 10 ^ k := by rw [Nat.pow_succ]; omega
      rw [e1] at h
      have e2 : (v * 10 + (q - 48)) * 10 ^ k ≤ (v * 10 + 9) * 10 ^ k := Nat.mul_le_mul_right _ (by omega)
      have e3 : (v * 10 + 9) * 10 ^ k + 10 ^ k = v * (10 * 10 ^ k) + 10 * 10 ^ k := by
        rw [Nat.add_mul, Nat.mul_assoc]
        omega
      omega
    · show v < 10000
      have e1 : 10 ^ (k + 1) = 10 * 10 ^ k := by rw [Nat.pow_succ]; omega
      have : v ≤ v * 10 ^ (k + 1) := Nat.le_mul_of_pos_right _ (Nat.pow_pos (by decide))
      omega
end Tx
