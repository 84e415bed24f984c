/-! what a text gives: signs, steps on a stack -/
def pu_j (sg a b : Int32) : Int32 :=
  if sg = 43 then a + b else if sg = 45 then a - b else if sg = 42 then a * b else if sg = 47 then (if b = 0 then 0 else a / b) else if sg = 37 then (if b = 0 then 0 else am_rem a b)
  else if sg = 60 then (if a < b then 1 else 0) else if sg = 61 then (if a = b then 1 else 0) else if sg = 62 then (if b < a then 1 else 0)
  else if sg = 38 then (if a = 0 then 0 else if b = 0 then 0 else 1) else if sg = 124 then (if a = 0 then (if b = 0 then 0 else 1) else 1) else 0
def pu_st (a b c it : Int32) (st : List Int32) : List Int32 :=
  if 0 ≤ it then it :: st
  else if -3 ≤ it then (if it = -1 then a else if it = -2 then b else c) :: st
  else match st with
    | [] => []
    | y :: r => if it = -33 then pu_j 61 y 0 :: r else match r with
      | [] => []
      | x :: r' => pu_j (-it) x y :: r'
def pu_dp (it : Int32) (d : Nat) : Option Nat :=
  if 0 ≤ it then (if d < 60 then some (d + 1) else none)
  else if -3 ≤ it then (if d < 60 then some (d + 1) else none)
  else if it = -33 then (if 1 ≤ d then some d else none)
  else if 2 ≤ d then some (d - 1) else none
def pu_wf : List Int32 → Nat → Option Nat
  | [], d => some d
  | it :: r, d => match pu_dp it d with
    | none => none
    | some d' => pu_wf r d'
def pu_run (a b c : Int32) : List Int32 → List Int32 → List Int32
  | [], st => st
  | it :: r, st => pu_run a b c r (pu_st a b c it st)
def pu_val (p : List Int32) (a b c : Int32) : Int32 := (pu_run a b c p []).headD 0
def pu_gv (s : Int32) (p : List Int32) (a b c lo hi : Int32) : Int32 := pu_held (if s = 0 then a else pu_val p a b c) lo hi
theorem pu_dp_len {it : Int32} {st : List Int32} {d' : Nat} {a b c : Int32} (h : pu_dp it st.length = some d') : (pu_st a b c it st).length = d' := by
  unfold pu_dp at h
  unfold pu_st
  split at h
  · rename_i h0
    rw [if_pos h0]
    split at h <;> cases h
    rfl
  · rename_i h0
    rw [if_neg h0]
    split at h
    · rename_i h1
      rw [if_pos h1]
      split at h <;> cases h
      rfl
    · rename_i h1
      rw [if_neg h1]
      split at h
      · rename_i h2
        split at h
        · cases h
          cases st with
          | nil => simp at *
          | cons y r => simp [h2]
        · cases h
      · rename_i h2
        split at h
        · cases h
          match st with
          | [] => simp at *
          | [y] => simp at *
          | y :: x :: r => simp [h2]
        · cases h
theorem pu_dp_le {it : Int32} {d d2 : Nat} (h : pu_dp it d = some d2) (hd : d ≤ 60) : d2 ≤ 60 := by
  unfold pu_dp at h
  split at h
  · split at h
    · cases h; omega
    · cases h
  · split at h
    · split at h
      · cases h; omega
      · cases h
    · split at h
      · split at h
        · cases h; omega
        · cases h
      · split at h
        · cases h; omega
        · cases h
/-- the stack's list in its row: the top last -/
def pu_rp (f : Nat → Int32) : List Int32 → Prop
  | [] => True
  | y :: r => f r.length = y ∧ pu_rp f r
theorem pu_rp_upd {f : Nat → Int32} {n : Nat} {v : Int32} : ∀ {r : List Int32}, pu_rp f r → r.length ≤ n → pu_rp (upd f n v) r
  | [], _, _ => trivial
  | y :: r, h, hn => ⟨by
      have : ¬ r.length = n := by simp at hn; omega
      simp [upd, this, h.1], pu_rp_upd h.2 (by simp at hn; omega)⟩
theorem pu_rp_push {f : Nat → Int32} {v : Int32} {r : List Int32} (h : pu_rp f r) : pu_rp (upd f r.length v) (v :: r) := ⟨by simp [upd], pu_rp_upd h (Nat.le_refl _)⟩
/-- a heap with the row of a stack -/
def am_sk (h : am_HI) (k : Nat) (f : Nat → Int32) (n : Nat) : am_HI := am_u (am_ur h (k + 1) f) k 1 (nI n)
theorem am_sk_push (h : am_HI) (k : Nat) (f : Nat → Int32) (n i m : Nat) (v : Int32) : am_u (am_u (am_sk h k f n) (k + 1) i v) k 1 (nI m) = am_sk h k (upd f i v) m := by
  have h1 : ¬ k = k + 1 := by omega
  have h2 : ¬ k + 1 = k := by omega
  funext a j
  unfold am_sk am_u am_ur
  by_cases e1 : a = k
  · subst e1
    by_cases e3 : j = 1 <;> simp [upd, h1, e3]
  · by_cases e2 : a = k + 1
    · subst e2
      simp [h2, upd]
    · simp [e1, e2]
theorem am_sk_pop (h : am_HI) (k : Nat) (f : Nat → Int32) (n m : Nat) : am_u (am_sk h k f n) k 1 (nI m) = am_sk h k f m := by
  have h1 : ¬ k = k + 1 := by omega
  funext a j
  unfold am_sk am_u am_ur
  by_cases e1 : a = k
  · subst e1
    by_cases e3 : j = 1 <;> simp [upd, h1, e3]
  · simp [e1]
theorem am_sk_0 (h : am_HI) (k : Nat) : am_u h k 1 (nI 0) = am_sk h k (h (k + 1)) 0 := by
  have h1 : ¬ k = k + 1 := by omega
  funext a j
  unfold am_sk am_u am_ur
  by_cases e1 : a = k
  · subst e1
    by_cases e3 : j = 1 <;> simp [upd, h1, e3]
  · by_cases e2 : a = k + 1
    · subst e2
      simp
    · simp [e1, e2]
theorem am_sk_n (h : am_HI) (k : Nat) (f : Nat → Int32) (n : Nat) : am_sk h k f n k 1 = nI n := by simp [am_sk, am_u, upd]
theorem am_sk_r (h : am_HI) (k : Nat) (f : Nat → Int32) (n i : Nat) : am_sk h k f n (k + 1) i = f i := by
  have h2 : ¬ k + 1 = k := by omega
  simp [am_sk, am_u, am_ur]
theorem am_sk_off (h : am_HI) {k a : Nat} (f : Nat → Int32) (n : Nat) (h1 : a ≠ k) (h2 : a ≠ k + 1) : am_sk h k f n a = h a := by
  simp [am_sk, am_u, am_ur, h1, h2]
/-- a heap that differs on a few cells alone -/
theorem am_ov_of {h h' : am_HI} {l : List Nat} (hh : ∀ a, l.elem a = false → h' a = h a) : h' = am_ov h l h' := by
  funext a
  unfold am_ov
  cases e : l.elem a with
  | true => rfl
  | false => rw [hh a e]; rfl
theorem am_ov_self (h : am_HI) (l : List Nat) : h = am_ov h l h := am_ov_of fun _ _ => rfl
theorem am_ov_ov (h : am_HI) (l l' : List Nat) (g g' : am_HI) (hl : ∀ a, l'.elem a = false → l.elem a = false) : am_ov (am_ov h l g) l' g' = am_ov h l' g' := by
  funext a
  unfold am_ov
  cases e : l'.elem a with
  | true => rfl
  | false => rw [hl a e]; rfl
