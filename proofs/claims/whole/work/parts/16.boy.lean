/-! what hangs; the boy -/
theorem am_ov_off {h g : am_HI} {l : List Nat} {a : Nat} (ha : l.elem a = false) : am_ov h l g a = h a := by unfold am_ov; rw [ha]; rfl
theorem am_ov_on {h g : am_HI} {l : List Nat} {a : Nat} (ha : l.elem a = true) : am_ov h l g a = g a := by unfold am_ov; rw [ha]; rfl
theorem am_nel {l : List Nat} {a x : Nat} (ha : l.elem a = false) (hx : l.elem x = true) : a ≠ x := fun e => by rw [e, hx] at ha; cases ha
theorem am_sub {l l2 : List Nat} {a : Nat} (ha : l.elem a = false) (hs : (l2.all fun x => l.elem x) = true) : l2.elem a = false := by
  cases e : l2.elem a with
  | false => rfl
  | true =>
    have h1 : a ∈ l2 := by simpa using e
    have h2 := List.all_eq_true.mp hs a h1
    rw [h2] at ha
    cases ha
theorem am_gen {L : Nat} {xs : Nat → Int32} {d mc ms M pc : Nat} {ls st : List Value} {sh : am_SH} {hi : am_HI} {Q : am_Q} (k : ∀ X, X = hi → am_wp L xs d mc ms M pc ls st sh X Q) : am_wp L xs d mc ms M pc ls st sh hi Q := k hi rfl
def hs_peg (f : Nat → Int32) (c : Nat) : Nat → Nat
  | 0 => 2 ^ c - 1
  | g + 1 => if f g = -1 then hs_peg f c g else pu_clr (hs_peg f c g) (f g).toNatClampNeg
theorem hs_peg_s1 {f : Nat → Int32} {c g j : Nat} (e : f g = nI j) (hj : j < 7) : hs_peg f c (g + 1) = pu_clr (hs_peg f c g) j := by
  show (if f g = -1 then hs_peg f c g else pu_clr (hs_peg f c g) (f g).toNatClampNeg) = _
  rw [e, if_neg (pu_ne1 (by omega)), nI_clamp (by omega)]
theorem hs_peg_s0 {f : Nat → Int32} {c g : Nat} (e : f g = -1) : hs_peg f c (g + 1) = hs_peg f c g := by
  show (if f g = -1 then hs_peg f c g else pu_clr (hs_peg f c g) (f g).toNatClampNeg) = _
  rw [if_pos e]
theorem hs_peg_lt {f : Nat → Int32} {c : Nat} (hc : c ≤ 7) : ∀ n, (∀ g, g < n → f g = -1 ∨ ∃ j, j < c ∧ f g = nI j) → hs_peg f c n < 128
  | 0, _ => pu_all_lt c (by omega)
  | n + 1, h => by
    have ih := hs_peg_lt hc n (fun g hg => h g (by omega))
    unfold hs_peg
    rcases h n (by omega) with e | ⟨j, hj, e⟩
    · rw [if_pos e]; exact ih
    · rw [e, if_neg (pu_ne1 (by omega)), nI_clamp (by omega)]
      exact pu_clr_lt _ ih _ (by omega)
theorem hs_peg_bit {f : Nat → Int32} {c : Nat} (hc : c ≤ 7) (k : Nat) (hk : k < 7) : ∀ n, (∀ g, g < n → f g = -1 ∨ ∃ j, j < c ∧ f g = nI j) → ((hs_peg f c n).testBit k = true ↔ k < c ∧ ∀ g, g < n → f g ≠ nI k)
  | 0, _ => by
    unfold hs_peg
    rw [pu_all_bit c (by omega) k hk]
    simp
  | n + 1, h => by
    have h' : ∀ g, g < n → f g = -1 ∨ ∃ j, j < c ∧ f g = nI j := fun g hg => h g (by omega)
    have ih := hs_peg_bit hc k hk n h'
    have ilt := hs_peg_lt hc n h'
    unfold hs_peg
    rcases h n (by omega) with e | ⟨j, hj, e⟩
    · rw [if_pos e, ih]
      constructor
      · rintro ⟨a, q⟩
        refine ⟨a, fun g hg => ?_⟩
        rcases Nat.lt_succ_iff_lt_or_eq.mp hg with q2 | q2
        · exact q g q2
        · rw [q2, e]
          exact fun q3 => pu_ne1 (by omega) q3.symm
      · rintro ⟨a, q⟩
        exact ⟨a, fun g hg => q g (by omega)⟩
    · rw [e, if_neg (pu_ne1 (by omega)), nI_clamp (by omega), pu_clr_bit _ ilt j (by omega) k hk, Bool.and_eq_true, ih]
      constructor
      · rintro ⟨⟨a, q⟩, q4⟩
        refine ⟨a, fun g hg => ?_⟩
        rcases Nat.lt_succ_iff_lt_or_eq.mp hg with q2 | q2
        · exact q g q2
        · rw [q2, e]
          intro q3
          have := pu_inj (by omega) (by omega) q3
          subst this
          simp at q4
      · rintro ⟨a, q⟩
        refine ⟨⟨a, fun g hg => q g (by omega)⟩, ?_⟩
        have := q n (by omega)
        rw [e] at this
        have hkj : ¬ k = j := fun q3 => this (by rw [q3])
        simp [hkj]
theorem pu_bit_0 {P j : Nat} (hP : P < 128) (hj : j < 7) : ((nI P >>> (nI j &&& 31)) &&& 1 = 0) ↔ P.testBit j = false := by
  rw [pu_bit_i P hP j hj]
  cases P.testBit j <;> decide
/-- picking, so far -/
def hs_pp (hg : Nat → Bool) (lk : Nat → Int32) (n : Nat) (v m : Int32) : Prop :=
  (v = -1 ∧ m = -1 ∧ ∀ c, c < n → hg c = false) ∨ ∃ j, j < n ∧ v = nI j ∧ hg j = true ∧ m = lk j ∧ ∀ c, c < n → hg c = true → lk c ≤ lk j ∧ (lk c = lk j → j ≤ c)
theorem hs_pp_pick {hg : Nat → Bool} {lk : Nat → Int32} {n : Nat} {v m : Int32} (h : hs_pp hg lk n v m) : pu_pick hg lk n v := by
  rcases h with ⟨h1, -, h2⟩ | ⟨j, h1, h2, h3, -, h4⟩
  · exact Or.inl ⟨h1, h2⟩
  · exact Or.inr ⟨j, h1, h2, h3, h4⟩
theorem hs_pp_no {hg : Nat → Bool} {lk : Nat → Int32} {n : Nat} {v m : Int32} (h : hs_pp hg lk n v m) (hn : hg n = false) : hs_pp hg lk (n + 1) v m := by
  rcases h with ⟨h1, h2, h3⟩ | ⟨j, h1, h2, h3, h5, h4⟩
  · refine Or.inl ⟨h1, h2, fun c hc => ?_⟩
    rcases Nat.lt_succ_iff_lt_or_eq.mp hc with q | q
    · exact h3 c q
    · rw [q]; exact hn
  · refine Or.inr ⟨j, by omega, h2, h3, h5, fun c hc hh => ?_⟩
    rcases Nat.lt_succ_iff_lt_or_eq.mp hc with q | q
    · exact h4 c q hh
    · rw [q, hn] at hh; cases hh
theorem hs_pp_less {hg : Nat → Bool} {lk : Nat → Int32} {n : Nat} {v m : Int32} (h : hs_pp hg lk n v m) (hl : lk n ≤ m) (h0 : 0 ≤ lk n) : hs_pp hg lk (n + 1) v m := by
  rcases h with ⟨h1, h2, h3⟩ | ⟨j, h1, h2, h3, h5, h4⟩
  · rw [h2] at hl
    exact absurd (Int32.le_trans h0 hl) (by decide)
  · refine Or.inr ⟨j, by omega, h2, h3, h5, fun c hc hh => ?_⟩
    rcases Nat.lt_succ_iff_lt_or_eq.mp hc with q | q
    · exact h4 c q hh
    · rw [q]
      exact ⟨by rw [← h5]; exact hl, fun _ => by omega⟩
theorem hs_pp_more {hg : Nat → Bool} {lk : Nat → Int32} {n : Nat} {v m : Int32} (h : hs_pp hg lk n v m) (hl : m < lk n) (hn : hg n = true) : hs_pp hg lk (n + 1) (nI n) (lk n) := by
  refine Or.inr ⟨n, by omega, rfl, hn, rfl, fun c hc hh => ?_⟩
  rcases Nat.lt_succ_iff_lt_or_eq.mp hc with q | q
  · rcases h with ⟨h1, h2, h3⟩ | ⟨j, h1, h2, h3, h5, h4⟩
    · rw [h3 c q] at hh; cases hh
    · have a := (h4 c q hh).1
      rw [← h5] at a
      have b := Int32.lt_of_le_of_lt a hl
      exact ⟨Int32.le_of_lt b, fun e => by rw [e] at b; exact (Int32.lt_irrefl b).elim⟩
  · rw [q]
    exact ⟨Int32.le_refl _, fun _ => Nat.le_refl _⟩
theorem lp_hanging {L : Nat} {xs : Nat → Int32} {d ms b : Nat} {h : am_HI} {Q : am_Q} {n c : Nat} (hn : h 1 10 = nI n) (hn7 : n ≤ 7) (hc : h 1 11 = nI c) (hc7 : c ≤ 7) (hw : ∀ g, g < n → h 5 g = -1 ∨ ∃ j, j < c ∧ h 5 g = nI j) (hd : 2 ≤ d) (kk : Q (some (.int (nI (hs_peg (h 5) c n)))) (am_S b) h) :
    ∀ (m i : Nat), i + m = n → am_wp L xs d 0 ms 42 7 [.ref 1, .int (nI (hs_peg (h 5) c i)), .int (nI i)] [] (am_S b) h Q := by
  intro m
  induction m with
  | zero =>
    intro i hi
    refine wp_run 2 (pc' := 9) (ls' := [.ref 1, .int (nI (hs_peg (h 5) c i)), .int (nI i)]) (st' := [.ref 1, .int (nI i)]) rfl ?_
    refine wp_geti (nI n) hn rfl rfl rfl ?_
    refine wp_icmp_t rfl (show (nI n) ≤ (nI i) from (nI_leI (a := n) (b := i) (by omega) (by omega)).mpr (by omega)) ?_
    refine wp_run 1 (pc' := 48) (ls' := [.ref 1, .int (nI (hs_peg (h 5) c i)), .int (nI i)]) (st' := [.int (nI (hs_peg (h 5) c i))]) rfl ?_
    refine wp_ret rfl ?_
    have e : i = n := by omega
    rw [e]
    exact kk
  | succ m ih =>
    intro i hi
    refine wp_run 2 (pc' := 9) (ls' := [.ref 1, .int (nI (hs_peg (h 5) c i)), .int (nI i)]) (st' := [.ref 1, .int (nI i)]) rfl ?_
    refine wp_geti (nI n) hn rfl rfl rfl ?_
    refine wp_icmp_f rfl (show ¬ ((nI n) ≤ (nI i)) from mt (nI_leI (a := n) (b := i) (by omega) (by omega)).mp (by omega)) ?_
    refine wp_run 2 (pc' := 17) (ls' := [.ref 1, .int (nI (hs_peg (h 5) c i)), .int (nI i)]) (st' := [.ref 1, .ref 1]) rfl ?_
    refine wp_getr 5 rfl rfl rfl ?_
    refine wp_run 1 (pc' := 21) (ls' := [.ref 1, .int (nI (hs_peg (h 5) c i)), .int (nI i)]) (st' := [.int (nI i), .ref 5, .ref 1]) rfl ?_
    refine wp_ald (h 5 i) rfl rfl rfl rfl (by omega) rfl ?_
    refine wp_callV (o := 1) (as := [.int (h 5 i)]) (rest := []) (els := [.ref 1, .int (h 5 i)]) rfl rfl rfl rfl rfl rfl rfl rfl (by omega) ?_
    refine sp_hasCoat (c := c) hc hc7 (by omega) ?_ ?_
    · skip
      intro j hj ej
      show am_wp L xs _ _ _ _ 25 [.ref 1, .int (nI (hs_peg (h 5) c i)), .int (nI i)] [.int 1] (am_S b) h _
      refine wp_if_f rfl (show ¬ ((1 : Int32) = 0) from by decide) ?_
      refine wp_run 3 (pc' := 31) (ls' := [.ref 1, .int (nI (hs_peg (h 5) c i)), .int (nI i)]) (st' := [.ref 1, .int 1, .int (nI (hs_peg (h 5) c i))]) rfl ?_
      refine wp_getr 5 rfl rfl rfl ?_
      refine wp_run 1 (pc' := 35) (ls' := [.ref 1, .int (nI (hs_peg (h 5) c i)), .int (nI i)]) (st' := [.int (nI i), .ref 5, .int 1, .int (nI (hs_peg (h 5) c i))]) rfl ?_
      refine wp_ald (nI j) ej rfl rfl rfl (by omega) rfl ?_
      refine wp_run 7 (pc' := 7) (ls' := [.ref 1, .int ((nI (hs_peg (h 5) c i)) &&& ((1 <<< ((nI j) &&& 31)) ^^^ (-1))), .int ((nI i) + 1)]) (st' := []) rfl ?_
      rw [show ((nI i) + 1) = (nI (i + 1)) from nI_add i 1]
      rw [show ((nI (hs_peg (h 5) c i)) &&& ((1 <<< ((nI j) &&& 31)) ^^^ (-1))) = nI (hs_peg (h 5) c (i + 1)) from by rw [pu_clr_i _ (hs_peg_lt hc7 i (fun g hg => hw g (by omega))) j (by omega), hs_peg_s1 ej (by omega)]]
      exact ih (i + 1) (by omega)
    · skip
      intro hno
      show am_wp L xs _ _ _ _ 25 [.ref 1, .int (nI (hs_peg (h 5) c i)), .int (nI i)] [.int 0] (am_S b) h _
      refine wp_if_t rfl (show (0 : Int32) = 0 from by decide) ?_
      refine wp_run 2 (pc' := 7) (ls' := [.ref 1, .int (nI (hs_peg (h 5) c i)), .int ((nI i) + 1)]) (st' := []) rfl ?_
      rw [show ((nI i) + 1) = (nI (i + 1)) from nI_add i 1]
      rw [show hs_peg (h 5) c i = hs_peg (h 5) c (i + 1) from by have e5 : h 5 i = -1 := (hw i (by omega)).resolve_right (fun ⟨j, hj, q⟩ => hno j hj q); (rw [hs_peg_s0 e5])]
      exact ih (i + 1) (by omega)
theorem sp_hanging {L : Nat} {xs : Nat → Int32} {d ms b : Nat} {h : am_HI} {Q : am_Q} {n c : Nat} (hn : h 1 10 = nI n) (hn7 : n ≤ 7) (hc : h 1 11 = nI c) (hc7 : c ≤ 7) (hw : ∀ g, g < n → h 5 g = -1 ∨ ∃ j, j < c ∧ h 5 g = nI j) (hd : 2 ≤ d) (kk : Q (some (.int (nI (hs_peg (h 5) c n)))) (am_S b) h) :
    am_wp L xs d 0 ms 42 0 [.ref 1, am_du, am_du] [] (am_S b) h Q := by
  refine wp_run 1 (pc' := 1) (ls' := [.ref 1, am_du, am_du]) (st' := [.ref 1]) rfl ?_
  refine wp_callV (o := 1) (as := []) (rest := []) (els := [.ref 1]) rfl rfl rfl rfl rfl rfl rfl rfl (by omega) ?_
  refine sp_allCoats hc hc7 ?_
  show am_wp L xs _ _ _ _ 4 [.ref 1, am_du, am_du] [.int (nI (2 ^ c - 1))] (am_S b) h _
  refine wp_run 3 (pc' := 7) (ls' := [.ref 1, .int (nI (2 ^ c - 1)), .int 0]) (st' := []) rfl ?_
  exact lp_hanging hn hn7 hc hc7 hw hd kk n 0 (by omega)
theorem lp_pick {L : Nat} {xs : Nat → Int32} {d ms b : Nat} {h : am_HI} {Q : am_Q} {P g c : Nat} (hb : h 47 1 = nI c) (hc7 : c ≤ 7) (hg : g < 7) (hP : P < 128) (hl : ∀ j, j < c → 0 ≤ h 48 (g * 7 + j)) (kk : ∀ v, pu_pick (fun j => P.testBit j) (fun j => h 48 (g * 7 + j)) c v → Q (some (.int v)) (am_S b) h) :
    ∀ (m i : Nat) (v m0 : Int32) (u6 : Value) (hpp : hs_pp (fun j => P.testBit j) (fun j => h 48 (g * 7 + j)) i v m0), i + m = c → am_wp L xs d 0 ms 46 8 [.ref 47, .int (nI g), .int (nI P), .int v, .int m0, .int (nI i), u6] [] (am_S b) h Q := by
  intro m
  induction m with
  | zero =>
    intro i v m0 u6 hpp hi
    refine wp_run 2 (pc' := 11) (ls' := [.ref 47, .int (nI g), .int (nI P), .int v, .int m0, .int (nI i), u6]) (st' := [.ref 47, .int (nI i)]) rfl ?_
    refine wp_geti (nI c) hb rfl rfl rfl ?_
    refine wp_icmp_t rfl (show (nI c) ≤ (nI i) from (nI_leI (a := c) (b := i) (by omega) (by omega)).mpr (by omega)) ?_
    refine wp_run 1 (pc' := 61) (ls' := [.ref 47, .int (nI g), .int (nI P), .int v, .int m0, .int (nI i), u6]) (st' := [.int v]) rfl ?_
    refine wp_ret rfl ?_
    have e : i = c := by omega
    rw [e] at hpp
    exact kk _ (hs_pp_pick hpp)
  | succ m ih =>
    intro i v m0 u6 hpp hi
    refine wp_run 2 (pc' := 11) (ls' := [.ref 47, .int (nI g), .int (nI P), .int v, .int m0, .int (nI i), u6]) (st' := [.ref 47, .int (nI i)]) rfl ?_
    refine wp_geti (nI c) hb rfl rfl rfl ?_
    refine wp_icmp_f rfl (show ¬ ((nI c) ≤ (nI i)) from mt (nI_leI (a := c) (b := i) (by omega) (by omega)).mp (by omega)) ?_
    refine wp_run 1 (pc' := 18) (ls' := [.ref 47, .int (nI g), .int (nI P), .int v, .int m0, .int (nI i), u6]) (st' := [.ref 47]) rfl ?_
    refine wp_getr 48 rfl rfl rfl ?_
    refine wp_run 5 (pc' := 28) (ls' := [.ref 47, .int (nI g), .int (nI P), .int v, .int m0, .int (nI i), u6]) (st' := [.int (((nI g) * 7) + (nI i)), .ref 48]) rfl ?_
    rw [show ((nI g) * 7) = (nI (g * 7)) from pk_mul g 7]
    rw [show ((nI (g * 7)) + (nI i)) = (nI ((g * 7) + i)) from nI_add (g * 7) i]
    refine wp_ald (h 48 ((g * 7) + i)) rfl rfl rfl rfl (by omega) rfl ?_
    refine wp_run 6 (pc' := 37) (ls' := [.ref 47, .int (nI g), .int (nI P), .int v, .int m0, .int (nI i), .int (h 48 ((g * 7) + i))]) (st' := [.int (((nI P) >>> ((nI i) &&& 31)) &&& 1)]) rfl ?_
    refine wp_if rfl (fun (cq37 : (((nI P) >>> ((nI i) &&& 31)) &&& 1) = 0) => ?_) (fun (cq37 : ¬ ((((nI P) >>> ((nI i) &&& 31)) &&& 1) = 0)) => ?_)
    · skip
      have hbit : P.testBit i = false := (pu_bit_0 hP (by omega)).mp cq37
      refine wp_run 2 (pc' := 8) (ls' := [.ref 47, .int (nI g), .int (nI P), .int v, .int m0, .int ((nI i) + 1), .int (h 48 ((g * 7) + i))]) (st' := []) rfl ?_
      rw [show ((nI i) + 1) = (nI (i + 1)) from nI_add i 1]
      exact ih (i + 1) _ _ _ (hs_pp_no hpp hbit) (by omega)
    · skip
      have hbit : P.testBit i = true := by cases e : P.testBit i with | true => rfl | false => exact absurd ((pu_bit_0 hP (by omega)).mpr e) cq37
      refine wp_run 2 (pc' := 44) (ls' := [.ref 47, .int (nI g), .int (nI P), .int v, .int m0, .int (nI i), .int (h 48 ((g * 7) + i))]) (st' := [.int m0, .int (h 48 ((g * 7) + i))]) rfl ?_
      refine wp_icmp rfl (fun (cq44 : (h 48 ((g * 7) + i)) ≤ m0) => ?_) (fun (cq44 : ¬ ((h 48 ((g * 7) + i)) ≤ m0)) => ?_)
      · skip
        refine wp_run 2 (pc' := 8) (ls' := [.ref 47, .int (nI g), .int (nI P), .int v, .int m0, .int ((nI i) + 1), .int (h 48 ((g * 7) + i))]) (st' := []) rfl ?_
        rw [show ((nI i) + 1) = (nI (i + 1)) from nI_add i 1]
        exact ih (i + 1) _ _ _ (hs_pp_less hpp cq44 (hl i (by omega))) (by omega)
      · skip
        refine wp_run 6 (pc' := 8) (ls' := [.ref 47, .int (nI g), .int (nI P), .int (nI i), .int (h 48 ((g * 7) + i)), .int ((nI i) + 1), .int (h 48 ((g * 7) + i))]) (st' := []) rfl ?_
        rw [show ((nI i) + 1) = (nI (i + 1)) from nI_add i 1]
        exact ih (i + 1) _ _ _ (hs_pp_more hpp (Int32.not_le.mp cq44) hbit) (by omega)
theorem sp_pick {L : Nat} {xs : Nat → Int32} {d ms b : Nat} {h : am_HI} {Q : am_Q} {P g c : Nat} (hb : h 47 1 = nI c) (hc7 : c ≤ 7) (hg : g < 7) (hP : P < 128) (hl : ∀ j, j < c → 0 ≤ h 48 (g * 7 + j)) (kk : ∀ v, pu_pick (fun j => P.testBit j) (fun j => h 48 (g * 7 + j)) c v → Q (some (.int v)) (am_S b) h) :
    am_wp L xs d 0 ms 46 0 [.ref 47, .int (nI g), .int (nI P), am_du, am_du, am_du, am_du] [] (am_S b) h Q := by
  refine wp_run 6 (pc' := 8) (ls' := [.ref 47, .int (nI g), .int (nI P), .int (-1), .int (-1), .int 0, am_du]) (st' := []) rfl ?_
  exact lp_pick hb hc7 hg hP hl kk c 0 _ _ _ (Or.inl ⟨rfl, rfl, fun q hq => by omega⟩) (by omega)
