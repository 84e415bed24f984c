/-! leaving: the boy gives, the reference gives -/
theorem hs_lk_0 (h : am_HI) (s : Int32) (p : List Int32) (j g : Nat) : 0 ≤ hs_lk h s p j g := by
  unfold hs_lk pu_gv
  exact pu_held_lo (by decide)
theorem ms_lk_0 (h : am_HI) (s : Int32) (p : List Int32) (j g : Nat) : 0 ≤ ms_lk h s p j g := by
  unfold ms_lk pu_gv
  exact pu_held_lo (by decide)
theorem hs_pp_m1 {hg : Nat → Bool} {lk : Nat → Int32} {n : Nat} {v m : Int32} (h : hs_pp hg lk n v m) (h0 : ∀ j, 0 ≤ lk j) : -1 ≤ m := by
  rcases h with ⟨-, h, -⟩ | ⟨j, -, -, -, h, -⟩
  · rw [h]; decide
  · rw [h]; exact pu_m1_le (h0 j)
/-- what is worn and what hangs -/
theorem re_bits {h : am_HI} {n c t tp wt : Nat} {s0 s1 : Int32} {p0 p1 : List Int32} (H : re_H h n c t tp wt s0 s1 p0 p1) {k : Nat} (hk : k < c) : (hs_peg (h 5) c n).testBit k = !((ms_worn (fun g => h 75 (7 + 4 * g + 3)) n).testBit k) := by
  have hc7 := H.2.1.2.2
  have h1 := hs_peg_bit (f := h 5) hc7 k (by omega) n (fun g hg => (H.2.2.2.2.2.2.1 g hg).2.2.2)
  have h2 := ms_worn_bit (f := fun g => h 75 (7 + 4 * g + 3)) hc7 k (by omega) n (fun g hg => (re_ms H).2.2.2.2.2.2.2.2 g hg)
  cases e : (ms_worn (fun g => h 75 (7 + 4 * g + 3)) n).testBit k
  · refine h1.mpr ⟨hk, fun g hg q => ?_⟩
    rw [h2.mpr ⟨g, hg, (re_hase H hg).symm.trans q⟩] at e
    cases e
  · obtain ⟨g, hg, q⟩ := h2.mp e
    rw [Bool.not_true, ← Bool.not_eq_true]
    intro q2
    exact (h1.mp q2).2 g hg ((re_hase H hg).trans q)
theorem hs_peg_0 {f : Nat → Int32} {c n : Nat} (hc : c ≤ 7) (hw : ∀ g, g < n → f g = -1 ∨ ∃ j, j < c ∧ f g = nI j) (h : ∀ k, k < c → (hs_peg f c n).testBit k = false) : hs_peg f c n = 0 := by
  refine pu_ext _ (hs_peg_lt hc n hw) 0 (by decide) (fun k hk => ?_)
  rw [Nat.zero_testBit]
  by_cases hkc : k < c
  · exact h k hkc
  · rw [← Bool.not_eq_true]
    intro q
    exact hkc ((hs_peg_bit hc k hk n hw).mp q).1
theorem pu_pick_some {hg : Nat → Bool} {lk : Nat → Int32} {n : Nat} {v : Int32} (h : pu_pick hg lk n v) (h2 : ¬ ∀ k, k < n → hg k = false) : ∃ j, j < n ∧ v = nI j := by
  rcases h with ⟨-, h⟩ | ⟨j, hj, e, -⟩
  · exact absurd h h2
  · exact ⟨j, hj, e⟩
theorem pu_pick_none {hg : Nat → Bool} {lk : Nat → Int32} {n : Nat} {v : Int32} (h : pu_pick hg lk n v) (h2 : ∀ k, k < n → hg k = false) : v = -1 := by
  rcases h with ⟨h, -⟩ | ⟨j, hj, e, h3, -⟩
  · exact h
  · rw [h2 j hj] at h3
    cases h3
theorem pu_pick_or {hg : Nat → Bool} {lk : Nat → Int32} {n : Nat} {v : Int32} (h : pu_pick hg lk n v) : v = -1 ∨ ∃ j, j < n ∧ v = nI j := by
  rcases h with ⟨h, -⟩ | ⟨j, hj, e, -⟩
  · exact Or.inl h
  · exact Or.inr ⟨j, hj, e⟩
theorem lp_getsOf {L : Nat} {xs : Nat → Int32} {d ms b : Nat} {h : am_HI} {Q : am_Q} {n c t : Nat} {s0 s1 : Int32} {p0 p1 : List Int32} (HM : am_ms h n c t s0 s1 p0 p1) {P g : Nat} (hP : P < 128) (hg : g < n) (hd : 4 ≤ d) (kk : ∀ v gz, pu_pick (fun j => !P.testBit j) (fun j => ms_lk h s0 p0 j g) c v → Q (some (.int v)) (am_S b) (am_ov h [83, 84] gz)) :
    ∀ (m i : Nat) (v m0 : Int32) (u6 : Value) (gz : am_HI) (hpp : hs_pp (fun j => !P.testBit j) (fun j => ms_lk h s0 p0 j g) i v m0), i + m = c → am_wp L xs d 0 ms 160 8 [.ref 74, .int (nI g), .int (nI P), .int v, .int m0, .int (nI i), u6] [] (am_S b) (am_ov h [83, 84] gz) Q := by
  have hn7 := HM.2.2.2.1
  have hc7 := HM.2.2.2.2.1
  have hm3 := HM.2.1
  intro m
  induction m with
  | zero =>
    intro i v m0 u6 gz hpp hi
    refine wp_run 2 (pc' := 11) (ls' := [.ref 74, .int (nI g), .int (nI P), .int v, .int m0, .int (nI i), u6]) (st' := [.ref 74, .int (nI i)]) rfl ?_
    refine wp_getr 75 rfl rfl rfl ?_
    refine wp_run 1 (pc' := 15) (ls' := [.ref 74, .int (nI g), .int (nI P), .int v, .int m0, .int (nI i), u6]) (st' := [.int 3, .ref 75, .int (nI i)]) rfl ?_
    refine wp_ald (i := 3) (nI c) hm3 rfl rfl rfl (by decide) rfl ?_
    refine wp_icmp_t rfl (show (nI c) ≤ (nI i) from (nI_leI (a := c) (b := i) (by omega) (by omega)).mpr (by omega)) ?_
    refine wp_run 1 (pc' := 79) (ls' := [.ref 74, .int (nI g), .int (nI P), .int v, .int m0, .int (nI i), u6]) (st' := [.int v]) rfl ?_
    refine wp_ret rfl ?_
    have e : i = c := by omega
    subst e
    exact kk v gz (hs_pp_pick hpp)
  | succ m ih =>
    intro i v m0 u6 gz hpp hi
    refine wp_run 2 (pc' := 11) (ls' := [.ref 74, .int (nI g), .int (nI P), .int v, .int m0, .int (nI i), u6]) (st' := [.ref 74, .int (nI i)]) rfl ?_
    refine wp_getr 75 rfl rfl rfl ?_
    refine wp_run 1 (pc' := 15) (ls' := [.ref 74, .int (nI g), .int (nI P), .int v, .int m0, .int (nI i), u6]) (st' := [.int 3, .ref 75, .int (nI i)]) rfl ?_
    refine wp_ald (i := 3) (nI c) hm3 rfl rfl rfl (by decide) rfl ?_
    refine wp_icmp_f rfl (show ¬ ((nI c) ≤ (nI i)) from mt (nI_leI (a := c) (b := i) (by omega) (by omega)).mp (by omega)) ?_
    refine wp_run 6 (pc' := 26) (ls' := [.ref 74, .int (nI g), .int (nI P), .int v, .int m0, .int (nI i), u6]) (st' := [.int 1, .int (((nI P) >>> ((nI i) &&& 31)) &&& 1)]) rfl ?_
    refine wp_icmp rfl (fun (cq26 : ¬ (((nI P) >>> ((nI i) &&& 31)) &&& 1) = 1) => ?_) (fun (cq26 : ¬ (¬ (((nI P) >>> ((nI i) &&& 31)) &&& 1) = 1)) => ?_)
    · skip
      have hbit : P.testBit i = false := by
        rw [pu_bit_i P hP i (by omega)] at cq26
        cases q : P.testBit i
        · rfl
        · rw [q] at cq26; exact absurd rfl cq26
      refine wp_run 3 (pc' := 37) (ls' := [.ref 74, .int (nI g), .int (nI P), .int v, .int m0, .int (nI i), u6]) (st' := [.int (nI g), .int (nI i), .ref 74]) rfl ?_
      refine wp_callV (o := 74) (as := [.int (nI i), .int (nI g)]) (rest := []) (els := [.ref 74, .int (nI i), .int (nI g)]) rfl rfl rfl rfl rfl rfl rfl rfl (by omega) ?_
      refine sp_likeOf (h := (am_ov h [83, 84] gz)) HM (j := i) (g := g) (by omega) hg (by omega) (fun gy => ?_)
      rw [am_ov_ov _ _ _ _ _ (fun _ q => q)]
      change am_wp L xs _ _ _ _ 40 [.ref 74, .int (nI g), .int (nI P), .int v, .int m0, .int (nI i), u6] [.int (ms_lk h s0 p0 i g)] (am_S b) (am_ov h [83, 84] gy) _
      show am_wp L xs _ _ _ _ 40 [.ref 74, .int (nI g), .int (nI P), .int v, .int m0, .int (nI i), u6] [.int (ms_lk h s0 p0 i g)] (am_S b) (am_ov h [83, 84] gy) _
      refine wp_run 3 (pc' := 46) (ls' := [.ref 74, .int (nI g), .int (nI P), .int v, .int m0, .int (nI i), .int (ms_lk h s0 p0 i g)]) (st' := [.int m0, .int (ms_lk h s0 p0 i g)]) rfl ?_
      refine wp_icmp rfl (fun (cq46 : (ms_lk h s0 p0 i g) ≤ m0) => ?_) (fun (cq46 : ¬ ((ms_lk h s0 p0 i g) ≤ m0)) => ?_)
      · skip
        refine wp_run 4 (pc' := 60) (ls' := [.ref 74, .int (nI g), .int (nI P), .int v, .int m0, .int (nI i), .int (ms_lk h s0 p0 i g)]) (st' := [.int m0, .int (ms_lk h s0 p0 i g)]) rfl ?_
        refine wp_icmp_t rfl (show (ms_lk h s0 p0 i g) ≤ m0 from cq46) ?_
        refine wp_run 4 (pc' := 8) (ls' := [.ref 74, .int (nI g), .int (nI P), .int v, .int m0, .int ((nI i) + 1), .int (ms_lk h s0 p0 i g)]) (st' := []) rfl ?_
        rw [show (((nI i) + 1) : Int32) = (nI (i + 1)) from nI_add i 1]
        exact ih (i + 1) _ _ _ _ (hs_pp_less hpp cq46 (ms_lk_0 h s0 p0 i g)) (by omega)
      · skip
        refine wp_run 5 (pc' := 60) (ls' := [.ref 74, .int (nI g), .int (nI P), .int (nI i), .int m0, .int (nI i), .int (ms_lk h s0 p0 i g)]) (st' := [.int m0, .int (ms_lk h s0 p0 i g)]) rfl ?_
        refine wp_icmp_f rfl (show ¬ ((ms_lk h s0 p0 i g) ≤ m0) from cq46) ?_
        refine wp_run 5 (pc' := 8) (ls' := [.ref 74, .int (nI g), .int (nI P), .int (nI i), .int (ms_lk h s0 p0 i g), .int ((nI i) + 1), .int (ms_lk h s0 p0 i g)]) (st' := []) rfl ?_
        rw [show (((nI i) + 1) : Int32) = (nI (i + 1)) from nI_add i 1]
        exact ih (i + 1) _ _ _ _ (hs_pp_more hpp (Int32.not_le.mp cq46) (by show (!P.testBit i) = true; rw [hbit]; rfl)) (by omega)
    · skip
      replace cq26 := Decidable.not_not.mp cq26
      have hbit : P.testBit i = true := by
        rw [pu_bit_i P hP i (by omega)] at cq26
        cases q : P.testBit i
        · rw [q] at cq26; cases cq26
        · rfl
      refine wp_run 5 (pc' := 46) (ls' := [.ref 74, .int (nI g), .int (nI P), .int v, .int m0, .int (nI i), .int (-1)]) (st' := [.int m0, .int (-1)]) rfl ?_
      refine wp_icmp_t rfl (show ((-1) : Int32) ≤ m0 from hs_pp_m1 hpp (fun j => ms_lk_0 h s0 p0 j g)) ?_
      refine wp_run 4 (pc' := 60) (ls' := [.ref 74, .int (nI g), .int (nI P), .int v, .int m0, .int (nI i), .int (-1)]) (st' := [.int m0, .int (-1)]) rfl ?_
      refine wp_icmp_t rfl (show ((-1) : Int32) ≤ m0 from hs_pp_m1 hpp (fun j => ms_lk_0 h s0 p0 j g)) ?_
      refine wp_run 4 (pc' := 8) (ls' := [.ref 74, .int (nI g), .int (nI P), .int v, .int m0, .int ((nI i) + 1), .int (-1)]) (st' := []) rfl ?_
      rw [show (((nI i) + 1) : Int32) = (nI (i + 1)) from nI_add i 1]
      exact ih (i + 1) _ _ _ _ (hs_pp_no hpp (by show (!P.testBit i) = false; rw [hbit]; rfl)) (by omega)
theorem sp_getsOf {L : Nat} {xs : Nat → Int32} {d ms b : Nat} {h : am_HI} {Q : am_Q} {n c t : Nat} {s0 s1 : Int32} {p0 p1 : List Int32} (HM : am_ms h n c t s0 s1 p0 p1) {P g : Nat} (hP : P < 128) (hg : g < n) (hd : 4 ≤ d) (kk : ∀ v gz, pu_pick (fun j => !P.testBit j) (fun j => ms_lk h s0 p0 j g) c v → Q (some (.int v)) (am_S b) (am_ov h [83, 84] gz)) :
    am_wp L xs d 0 ms 160 0 [.ref 74, .int (nI g), .int (nI P), am_du, am_du, am_du, am_du] [] (am_S b) h Q := by
  refine wp_run 6 (pc' := 8) (ls' := [.ref 74, .int (nI g), .int (nI P), .int (-1), .int (-1), .int 0, am_du]) (st' := []) rfl ?_
  have hp := lp_getsOf (L := L) (xs := xs) (ms := ms) (b := b) HM hP hg hd kk c 0 (-1) (-1) am_du h (Or.inl ⟨rfl, rfl, fun q hq => by omega⟩) (by omega)
  rw [← am_ov_self] at hp
  exact hp
theorem pu_pick_uniq_l {hg : Nat → Bool} {lk lk2 : Nat → Int32} {n : Nat} {v : Int32} (h : pu_pick hg lk n v) (e : ∀ c, c < n → lk c = lk2 c) : pu_pick hg lk2 n v := by
  rcases h with h | ⟨j, hj, e1, h1, h2⟩
  · exact Or.inl h
  · refine Or.inr ⟨j, hj, e1, h1, fun c hc hg => ?_⟩
    rw [← e c hc, ← e j hj]
    exact h2 c hc hg
theorem sp_letLeave {L : Nat} {xs : Nat → Int32} {d ms b : Nat} {h : am_HI} {Q : am_Q} {n c t : Nat} {s0 s1 : Int32} {p0 p1 : List Int32} (HS : am_hs h n c t s0 s1 p0 p1) {g : Nat} (hg : g < n) (hd : 5 ≤ d) (kk : ∀ v gz, pu_pick (fun j => (hs_peg (h 5) c n).testBit j) (fun j => hs_lk h s0 p0 j g) c v → Q (some (.int v)) (am_S b) (am_u (am_ov h [17, 18, 47, 48] gz) 5 g v)) :
    am_wp L xs d 0 ms 44 0 [.ref 0, .int (nI g), am_du] [] (am_S b) h Q := by
  have hn := HS.1
  have hc := HS.2.1
  have hn7 := HS.2.2.2.1
  have hc7 := HS.2.2.2.2.1
  refine wp_run 1 (pc' := 1) (ls' := [.ref 0, .int (nI g), am_du]) (st' := [.ref 0]) rfl ?_
  refine wp_getr 47 rfl rfl rfl ?_
  refine wp_run 1 (pc' := 5) (ls' := [.ref 0, .int (nI g), am_du]) (st' := [.ref 0, .ref 47]) rfl ?_
  refine wp_getr 1 rfl rfl rfl ?_
  refine wp_run 1 (pc' := 9) (ls' := [.ref 0, .int (nI g), am_du]) (st' := [.int (nI g), .ref 1, .ref 47]) rfl ?_
  refine wp_callV (o := 47) (as := [.ref 1, .int (nI g)]) (rest := []) (els := [.ref 47, .ref 1, .int (nI g), am_du]) rfl rfl rfl rfl rfl rfl rfl rfl (by omega) ?_
  refine sp_learn (h := h) HS (g := g) (by omega) (by omega) (fun gz f47 f48 f49 => ?_)
  show am_wp L xs _ _ _ _ 12 [.ref 0, .int (nI g), am_du] [] (am_S b) (am_ov h [17, 18, 47, 48] gz) _
  refine wp_run 1 (pc' := 13) (ls' := [.ref 0, .int (nI g), am_du]) (st' := [.ref 0]) rfl ?_
  refine wp_getr 47 rfl rfl rfl ?_
  refine wp_run 2 (pc' := 18) (ls' := [.ref 0, .int (nI g), am_du]) (st' := [.ref 0, .int (nI g), .ref 47]) rfl ?_
  refine wp_getr 1 rfl rfl rfl ?_
  refine wp_callV (o := 1) (as := []) (rest := [.int (nI g), .ref 47]) (els := [.ref 1, am_du, am_du]) rfl rfl rfl rfl rfl rfl rfl rfl (by omega) ?_
  refine sp_hanging (h := (am_ov h [17, 18, 47, 48] gz)) (n := n) (c := c) hn hn7 hc hc7 HS.2.2.2.2.2.2.2.2.2.2 (by omega) ?_
  show am_wp L xs _ _ _ _ 24 [.ref 0, .int (nI g), am_du] [.int (nI (hs_peg (h 5) c n)), .int (nI g), .ref 47] (am_S b) (am_ov h [17, 18, 47, 48] gz) _
  refine wp_callV (o := 47) (as := [.int (nI g), .int (nI (hs_peg (h 5) c n))]) (rest := []) (els := [.ref 47, .int (nI g), .int (nI (hs_peg (h 5) c n)), am_du, am_du, am_du, am_du]) rfl rfl rfl rfl rfl rfl rfl rfl (by omega) ?_
  refine sp_pick (h := (am_ov h [17, 18, 47, 48] gz)) (P := hs_peg (h 5) c n) (g := g) (c := c) f47 hc7 (by omega) (hs_peg_lt hc7 n HS.2.2.2.2.2.2.2.2.2.2) (fun j hj => (show 0 ≤ gz 48 (g * 7 + j) from by rw [f48 j hj]; exact hs_lk_0 h s0 p0 j g)) (fun v1 hp1 => ?_)
  show am_wp L xs _ _ _ _ 27 [.ref 0, .int (nI g), am_du] [.int v1] (am_S b) (am_ov h [17, 18, 47, 48] gz) _
  refine wp_run 2 (pc' := 29) (ls' := [.ref 0, .int (nI g), .int v1]) (st' := [.ref 0]) rfl ?_
  refine wp_getr 1 rfl rfl rfl ?_
  refine wp_getr 5 rfl rfl rfl ?_
  refine wp_run 2 (pc' := 37) (ls' := [.ref 0, .int (nI g), .int v1]) (st' := [.int v1, .int (nI g), .ref 5]) rfl ?_
  refine wp_ast rfl rfl rfl (by omega) rfl ?_
  refine wp_run 1 (pc' := 39) (ls' := [.ref 0, .int (nI g), .int v1]) (st' := [.int v1]) rfl ?_
  refine wp_ret rfl ?_
  refine kk v1 gz (pu_pick_uniq_l hp1 (fun j hj => f48 j hj))
