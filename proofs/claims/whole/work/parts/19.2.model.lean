/-! the reference: likes, what is done, who wears -/
def ms_lk (h : am_HI) (s : Int32) (p : List Int32) (j g : Nat) : Int32 := pu_gv s p (pu_suits (h 75 (35 + 3 * j)) (h 75 (35 + 3 * j + 1)) (h 75 (7 + 4 * g)) (h 75 (7 + 4 * g + 1)) (h 75 (7 + 4 * g + 2)) (h 75 0)) (h 75 (7 + 4 * g + 2)) (am_rem (h 75 0) 7) 0 99
def ms_mk (h : am_HI) (s : Int32) (p : List Int32) (j g : Nat) : Int32 := pu_gv s p (pu_makes (h 75 (35 + 3 * j)) (h 75 (35 + 3 * j + 1)) (h 75 (7 + 4 * g)) (h 75 0)) (h 75 (7 + 4 * g)) (if h 75 (35 + 3 * j + 2) = nI g then 1 else 0) (-99) 99
def ms_mkn (h : am_HI) (s : Int32) (p : List Int32) (g : Nat) : Int32 := if h 75 (7 + 4 * g + 3) = -1 then 0 else ms_mk h s p (h 75 (7 + 4 * g + 3)).toNatClampNeg g
/-- the reference's row: n guests, c coats, night t, the two laws -/
def re_ml (m : Nat → Int32) (at_ : Nat) (s : Int32) (p : List Int32) : Prop := (s = 0 ∧ m at_ = 0 ∨ s = 1 ∧ m at_ = nI p.length ∧ 0 < p.length ∧ ∀ i (hi : i < p.length), re_op (m (at_ + 1 + i)) (m (at_ + 61 + i)) p[i]) ∧ p.length ≤ 60 ∧ (s = 0 ∨ pu_wf p 0 = some 1)
def am_ms (h : am_HI) (n c t : Nat) (s0 s1 : Int32) (p0 p1 : List Int32) : Prop := h 75 2 = nI n ∧ h 75 3 = nI c ∧ h 75 0 = nI t ∧ n ≤ 7 ∧ c ≤ 7 ∧ t ≤ 9999 ∧ re_ml (h 75) 140 s0 p0 ∧ re_ml (h 75) 261 s1 p1 ∧
  (∀ g, g < n → h 75 (7 + 4 * g + 3) = -1 ∨ ∃ j, j < c ∧ h 75 (7 + 4 * g + 3) = nI j)
theorem re_ms {h : am_HI} {n c t tp wt : Nat} {s0 s1 : Int32} {p0 p1 : List Int32} (H : re_H h n c t tp wt s0 s1 p0 p1) : am_ms h n c t s0 s1 p0 p1 :=
  ⟨H.1.2.1, H.2.1.2.1, H.2.2.1.2.1, H.1.2.2, H.2.1.2.2, H.2.2.1.2.2, ⟨H.2.2.2.2.2.2.2.2.2.2.1.2, H.2.2.2.2.2.2.2.2.2.2.1.1.2.2.1, H.2.2.2.2.2.2.2.2.2.2.1.1.2.2.2.2.2.2⟩, ⟨H.2.2.2.2.2.2.2.2.2.2.2.2, H.2.2.2.2.2.2.2.2.2.2.2.1.2.2.1, H.2.2.2.2.2.2.2.2.2.2.2.1.2.2.2.2.2.2⟩,
   fun g hg => by rw [← (H.2.2.2.2.1 g (by have := H.1.2.2; omega)).2.2.2]; exact (H.2.2.2.2.2.2.1 g hg).2.2.2⟩
theorem re_lk {h : am_HI} {n c t tp wt : Nat} {s0 s1 : Int32} {p0 p1 : List Int32} (H : re_H h n c t tp wt s0 s1 p0 p1) {j g : Nat} (hj : j < c) (hg : g < n) : ms_lk h s0 p0 j g = hs_lk h s0 p0 j g := by
  have h1 := H.2.2.2.2.1 g (by have := H.1.2.2; omega)
  have h2 := H.2.2.2.2.2.1 j (by have := H.2.1.2.2; omega)
  unfold ms_lk hs_lk
  rw [h1.1, h1.2.1, h1.2.2.1, h2.1, h2.2.1, H.2.2.1.1, H.2.2.1.2.1]
theorem re_mk {h : am_HI} {n c t tp wt : Nat} {s0 s1 : Int32} {p0 p1 : List Int32} (H : re_H h n c t tp wt s0 s1 p0 p1) {j g : Nat} (hj : j < c) (hg : g < n) : ms_mk h s1 p1 j g = hs_mk h s1 p1 j g := by
  have h1 := H.2.2.2.2.1 g (by have := H.1.2.2; omega)
  have h2 := H.2.2.2.2.2.1 j (by have := H.2.1.2.2; omega)
  unfold ms_mk hs_mk
  rw [h1.1, h2.1, h2.2.1, h2.2.2, H.2.2.1.1, H.2.2.1.2.1]
theorem re_mkn {h : am_HI} {n c t tp wt : Nat} {s0 s1 : Int32} {p0 p1 : List Int32} (H : re_H h n c t tp wt s0 s1 p0 p1) {g : Nat} (hg : g < n) : ms_mkn h s1 p1 g = hs_mkn h s1 p1 g := by
  have h1 := H.2.2.2.2.1 g (by have := H.1.2.2; omega)
  unfold ms_mkn hs_mkn
  rw [← h1.2.2.2]
  rcases (H.2.2.2.2.2.2.1 g hg).2.2.2 with e | ⟨j, hj, e⟩
  · rw [if_pos e, if_pos e]
  · have h7 := H.2.1.2.2
    rw [e, if_neg (pu_ne1 (by omega)), if_neg (pu_ne1 (by omega)), nI_clamp (by omega)]
    exact re_mk H hj hg
theorem sp_likeOf {L : Nat} {xs : Nat → Int32} {d ms b : Nat} {h : am_HI} {Q : am_Q} {n c t : Nat} {s0 s1 : Int32} {p0 p1 : List Int32} (HM : am_ms h n c t s0 s1 p0 p1) {j g : Nat} (hj : j < c) (hg : g < n) (hd : 3 ≤ d) (kk : ∀ gz, Q (some (.int (ms_lk h s0 p0 j g))) (am_S b) (am_ov h [83, 84] gz)) :
    am_wp L xs d 0 ms 154 0 [.ref 74, .int (nI j), .int (nI g)] [] (am_S b) h Q := by
  have hn7 := HM.2.2.2.1
  have hc7 := HM.2.2.2.2.1
  refine wp_run 5 (pc' := 5) (ls' := [.ref 74, .int (nI j), .int (nI g)]) (st' := [.int (nI g), .int (nI j), .ref 74, .int 0, .ref 74]) rfl ?_
  refine wp_callV (o := 74) (as := [.int (nI j), .int (nI g)]) (rest := [.int 0, .ref 74]) (els := [.ref 74, .int (nI j), .int (nI g), am_du, am_du, am_du]) rfl rfl rfl rfl rfl rfl rfl rfl (by omega) ?_
  refine sp_suits (by omega) (by omega) (by omega) ?_
  show am_wp L xs _ _ _ _ 8 [.ref 74, .int (nI j), .int (nI g)] [.int (pu_suits (h 75 (35 + 3 * j)) (h 75 (35 + 3 * j + 1)) (h 75 (7 + 4 * g)) (h 75 (7 + 4 * g + 1)) (h 75 (7 + 4 * g + 2)) (h 75 0)), .int 0, .ref 74] (am_S b) h _
  refine wp_run 3 (pc' := 11) (ls' := [.ref 74, .int (nI j), .int (nI g)]) (st' := [.int 2, .int (nI g), .ref 74, .int (pu_suits (h 75 (35 + 3 * j)) (h 75 (35 + 3 * j + 1)) (h 75 (7 + 4 * g)) (h 75 (7 + 4 * g + 1)) (h 75 (7 + 4 * g + 2)) (h 75 0)), .int 0, .ref 74]) rfl ?_
  refine wp_callV (o := 74) (as := [.int (nI g), .int 2]) (rest := [.int (pu_suits (h 75 (35 + 3 * j)) (h 75 (35 + 3 * j + 1)) (h 75 (7 + 4 * g)) (h 75 (7 + 4 * g + 1)) (h 75 (7 + 4 * g + 2)) (h 75 0)), .int 0, .ref 74]) (els := [.ref 74, .int (nI g), .int 2]) rfl rfl rfl rfl rfl rfl rfl rfl (by omega) ?_
  refine sp_about (w := 2) (h 75 (7 + 4 * g + 2)) rfl (by omega) (by omega) ?_
  show am_wp L xs _ _ _ _ 14 [.ref 74, .int (nI j), .int (nI g)] [.int (h 75 (7 + 4 * g + 2)), .int (pu_suits (h 75 (35 + 3 * j)) (h 75 (35 + 3 * j + 1)) (h 75 (7 + 4 * g)) (h 75 (7 + 4 * g + 1)) (h 75 (7 + 4 * g + 2)) (h 75 0)), .int 0, .ref 74] (am_S b) h _
  refine wp_run 1 (pc' := 15) (ls' := [.ref 74, .int (nI j), .int (nI g)]) (st' := [.ref 74, .int (h 75 (7 + 4 * g + 2)), .int (pu_suits (h 75 (35 + 3 * j)) (h 75 (35 + 3 * j + 1)) (h 75 (7 + 4 * g)) (h 75 (7 + 4 * g + 1)) (h 75 (7 + 4 * g + 2)) (h 75 0)), .int 0, .ref 74]) rfl ?_
  refine wp_getr 75 rfl rfl rfl ?_
  refine wp_run 1 (pc' := 19) (ls' := [.ref 74, .int (nI j), .int (nI g)]) (st' := [.int 0, .ref 75, .int (h 75 (7 + 4 * g + 2)), .int (pu_suits (h 75 (35 + 3 * j)) (h 75 (35 + 3 * j + 1)) (h 75 (7 + 4 * g)) (h 75 (7 + 4 * g + 1)) (h 75 (7 + 4 * g + 2)) (h 75 0)), .int 0, .ref 74]) rfl ?_
  refine wp_ald (i := 0) (h 75 0) rfl rfl rfl rfl (by decide) rfl ?_
  refine wp_run 1 (pc' := 22) (ls' := [.ref 74, .int (nI j), .int (nI g)]) (st' := [.int 7, .int (h 75 0), .int (h 75 (7 + 4 * g + 2)), .int (pu_suits (h 75 (35 + 3 * j)) (h 75 (35 + 3 * j + 1)) (h 75 (7 + 4 * g)) (h 75 (7 + 4 * g + 1)) (h 75 (7 + 4 * g + 2)) (h 75 0)), .int 0, .ref 74]) rfl ?_
  refine wp_irem rfl (by decide) ?_
  refine wp_callV (o := 74) (as := [.int 0, .int (pu_suits (h 75 (35 + 3 * j)) (h 75 (35 + 3 * j + 1)) (h 75 (7 + 4 * g)) (h 75 (7 + 4 * g + 1)) (h 75 (7 + 4 * g + 2)) (h 75 0)), .int (h 75 (7 + 4 * g + 2)), .int (am_rem (h 75 0) 7)]) (rest := []) (els := [.ref 74, .int 0, .int (pu_suits (h 75 (35 + 3 * j)) (h 75 (35 + 3 * j + 1)) (h 75 (7 + 4 * g)) (h 75 (7 + 4 * g + 1)) (h 75 (7 + 4 * g + 2)) (h 75 0)), .int (h 75 (7 + 4 * g + 2)), .int (am_rem (h 75 0) 7), am_du, am_du]) rfl rfl rfl rfl rfl rfl rfl rfl (by omega) ?_
  refine sp_mgives0 (h := h) HM.2.2.2.2.2.2.1.1 HM.2.2.2.2.2.2.1.2.1 HM.2.2.2.2.2.2.1.2.2 (by omega) (fun gz => ?_)
  show am_wp L xs _ _ _ _ 26 [.ref 74, .int (nI j), .int (nI g)] [.int (pu_gv s0 p0 (pu_suits (h 75 (35 + 3 * j)) (h 75 (35 + 3 * j + 1)) (h 75 (7 + 4 * g)) (h 75 (7 + 4 * g + 1)) (h 75 (7 + 4 * g + 2)) (h 75 0)) (h 75 (7 + 4 * g + 2)) (am_rem (h 75 0) 7) 0 99)] (am_S b) (am_ov h [83, 84] gz) _
  refine wp_ret rfl ?_
  exact kk gz
theorem sp_doneIn {L : Nat} {xs : Nat → Int32} {d ms b : Nat} {h : am_HI} {Q : am_Q} {n c t : Nat} {s0 s1 : Int32} {p0 p1 : List Int32} (HM : am_ms h n c t s0 s1 p0 p1) {j g : Nat} (hj : j < c) (hg : g < n) (hd : 3 ≤ d) (kk : ∀ gz, Q (some (.int (ms_mk h s1 p1 j g))) (am_S b) (am_ov h [83, 84] gz)) :
    am_wp L xs d 0 ms 138 0 [.ref 74, .int (nI j), .int (nI g)] [] (am_S b) h Q := by
  have hn7 := HM.2.2.2.1
  have hc7 := HM.2.2.2.2.1
  refine wp_run 5 (pc' := 5) (ls' := [.ref 74, .int (nI j), .int (nI g)]) (st' := [.int (nI g), .int (nI j), .ref 74, .int 1, .ref 74]) rfl ?_
  refine wp_callV (o := 74) (as := [.int (nI j), .int (nI g)]) (rest := [.int 1, .ref 74]) (els := [.ref 74, .int (nI j), .int (nI g), am_du]) rfl rfl rfl rfl rfl rfl rfl rfl (by omega) ?_
  refine sp_makes (by omega) (by omega) (by omega) ?_
  show am_wp L xs _ _ _ _ 8 [.ref 74, .int (nI j), .int (nI g)] [.int (pu_makes (h 75 (35 + 3 * j)) (h 75 (35 + 3 * j + 1)) (h 75 (7 + 4 * g)) (h 75 0)), .int 1, .ref 74] (am_S b) h _
  refine wp_run 3 (pc' := 11) (ls' := [.ref 74, .int (nI j), .int (nI g)]) (st' := [.int 0, .int (nI g), .ref 74, .int (pu_makes (h 75 (35 + 3 * j)) (h 75 (35 + 3 * j + 1)) (h 75 (7 + 4 * g)) (h 75 0)), .int 1, .ref 74]) rfl ?_
  refine wp_callV (o := 74) (as := [.int (nI g), .int 0]) (rest := [.int (pu_makes (h 75 (35 + 3 * j)) (h 75 (35 + 3 * j + 1)) (h 75 (7 + 4 * g)) (h 75 0)), .int 1, .ref 74]) (els := [.ref 74, .int (nI g), .int 0]) rfl rfl rfl rfl rfl rfl rfl rfl (by omega) ?_
  refine sp_about (w := 0) (h 75 (7 + 4 * g)) rfl (by omega) (by omega) ?_
  show am_wp L xs _ _ _ _ 14 [.ref 74, .int (nI j), .int (nI g)] [.int (h 75 (7 + 4 * g)), .int (pu_makes (h 75 (35 + 3 * j)) (h 75 (35 + 3 * j + 1)) (h 75 (7 + 4 * g)) (h 75 0)), .int 1, .ref 74] (am_S b) h _
  refine wp_run 3 (pc' := 17) (ls' := [.ref 74, .int (nI j), .int (nI g)]) (st' := [.int 2, .int (nI j), .ref 74, .int (h 75 (7 + 4 * g)), .int (pu_makes (h 75 (35 + 3 * j)) (h 75 (35 + 3 * j + 1)) (h 75 (7 + 4 * g)) (h 75 0)), .int 1, .ref 74]) rfl ?_
  refine wp_callV (o := 74) (as := [.int (nI j), .int 2]) (rest := [.int (h 75 (7 + 4 * g)), .int (pu_makes (h 75 (35 + 3 * j)) (h 75 (35 + 3 * j + 1)) (h 75 (7 + 4 * g)) (h 75 0)), .int 1, .ref 74]) (els := [.ref 74, .int (nI j), .int 2]) rfl rfl rfl rfl rfl rfl rfl rfl (by omega) ?_
  refine sp_of (w := 2) (h 75 (35 + 3 * j + 2)) rfl (by omega) (by omega) ?_
  show am_wp L xs _ _ _ _ 20 [.ref 74, .int (nI j), .int (nI g)] [.int (h 75 (35 + 3 * j + 2)), .int (h 75 (7 + 4 * g)), .int (pu_makes (h 75 (35 + 3 * j)) (h 75 (35 + 3 * j + 1)) (h 75 (7 + 4 * g)) (h 75 0)), .int 1, .ref 74] (am_S b) h _
  refine wp_run 1 (pc' := 21) (ls' := [.ref 74, .int (nI j), .int (nI g)]) (st' := [.int (nI g), .int (h 75 (35 + 3 * j + 2)), .int (h 75 (7 + 4 * g)), .int (pu_makes (h 75 (35 + 3 * j)) (h 75 (35 + 3 * j + 1)) (h 75 (7 + 4 * g)) (h 75 0)), .int 1, .ref 74]) rfl ?_
  refine wp_icmp rfl (fun (cq21 : ¬ (h 75 (35 + 3 * j + 2)) = (nI g)) => ?_) (fun (cq21 : ¬ (¬ (h 75 (35 + 3 * j + 2)) = (nI g))) => ?_)
  · skip
    have eif : (if h 75 (35 + 3 * j + 2) = nI g then (1 : Int32) else 0) = 0 := if_neg cq21
    refine wp_run 1 (pc' := 29) (ls' := [.ref 74, .int (nI j), .int (nI g)]) (st' := [.int 0, .int (h 75 (7 + 4 * g)), .int (pu_makes (h 75 (35 + 3 * j)) (h 75 (35 + 3 * j + 1)) (h 75 (7 + 4 * g)) (h 75 0)), .int 1, .ref 74]) rfl ?_
    refine wp_callV (o := 74) (as := [.int 1, .int (pu_makes (h 75 (35 + 3 * j)) (h 75 (35 + 3 * j + 1)) (h 75 (7 + 4 * g)) (h 75 0)), .int (h 75 (7 + 4 * g)), .int 0]) (rest := []) (els := [.ref 74, .int 1, .int (pu_makes (h 75 (35 + 3 * j)) (h 75 (35 + 3 * j + 1)) (h 75 (7 + 4 * g)) (h 75 0)), .int (h 75 (7 + 4 * g)), .int 0, am_du, am_du]) rfl rfl rfl rfl rfl rfl rfl rfl (by omega) ?_
    refine sp_mgives1 (h := h) HM.2.2.2.2.2.2.2.1.1 HM.2.2.2.2.2.2.2.1.2.1 HM.2.2.2.2.2.2.2.1.2.2 (by omega) (fun gz => ?_)
    show am_wp L xs _ _ _ _ 32 [.ref 74, .int (nI j), .int (nI g)] [.int (pu_gv s1 p1 (pu_makes (h 75 (35 + 3 * j)) (h 75 (35 + 3 * j + 1)) (h 75 (7 + 4 * g)) (h 75 0)) (h 75 (7 + 4 * g)) 0 (-99) 99)] (am_S b) (am_ov h [83, 84] gz) _
    refine wp_ret rfl ?_
    have := kk gz
    unfold ms_mk at this
    rw [eif] at this
    exact this
  · skip
    replace cq21 := Decidable.not_not.mp cq21
    have eif : (if h 75 (35 + 3 * j + 2) = nI g then (1 : Int32) else 0) = 1 := if_pos cq21
    refine wp_run 2 (pc' := 29) (ls' := [.ref 74, .int (nI j), .int (nI g)]) (st' := [.int 1, .int (h 75 (7 + 4 * g)), .int (pu_makes (h 75 (35 + 3 * j)) (h 75 (35 + 3 * j + 1)) (h 75 (7 + 4 * g)) (h 75 0)), .int 1, .ref 74]) rfl ?_
    refine wp_callV (o := 74) (as := [.int 1, .int (pu_makes (h 75 (35 + 3 * j)) (h 75 (35 + 3 * j + 1)) (h 75 (7 + 4 * g)) (h 75 0)), .int (h 75 (7 + 4 * g)), .int 1]) (rest := []) (els := [.ref 74, .int 1, .int (pu_makes (h 75 (35 + 3 * j)) (h 75 (35 + 3 * j + 1)) (h 75 (7 + 4 * g)) (h 75 0)), .int (h 75 (7 + 4 * g)), .int 1, am_du, am_du]) rfl rfl rfl rfl rfl rfl rfl rfl (by omega) ?_
    refine sp_mgives1 (h := h) HM.2.2.2.2.2.2.2.1.1 HM.2.2.2.2.2.2.2.1.2.1 HM.2.2.2.2.2.2.2.1.2.2 (by omega) (fun gz => ?_)
    show am_wp L xs _ _ _ _ 32 [.ref 74, .int (nI j), .int (nI g)] [.int (pu_gv s1 p1 (pu_makes (h 75 (35 + 3 * j)) (h 75 (35 + 3 * j + 1)) (h 75 (7 + 4 * g)) (h 75 0)) (h 75 (7 + 4 * g)) 1 (-99) 99)] (am_S b) (am_ov h [83, 84] gz) _
    refine wp_ret rfl ?_
    have := kk gz
    unfold ms_mk at this
    rw [eif] at this
    exact this
theorem sp_doneNow {L : Nat} {xs : Nat → Int32} {d ms b : Nat} {h : am_HI} {Q : am_Q} {n c t : Nat} {s0 s1 : Int32} {p0 p1 : List Int32} (HM : am_ms h n c t s0 s1 p0 p1) {g : Nat} (hg : g < n) (hd : 4 ≤ d) (kk : ∀ gz, Q (some (.int (ms_mkn h s1 p1 g))) (am_S b) (am_ov h [83, 84] gz)) :
    am_wp L xs d 0 ms 137 0 [.ref 74, .int (nI g), am_du] [] (am_S b) h Q := by
  have hn7 := HM.2.2.2.1
  have hc7 := HM.2.2.2.2.1
  rcases HM.2.2.2.2.2.2.2.2 g hg with e5 | ⟨j, hj, ej⟩
  · have k2 := kk h
    unfold ms_mkn at k2
    rw [if_pos e5, ← am_ov_self] at k2
    refine wp_run 3 (pc' := 3) (ls' := [.ref 74, .int (nI g), am_du]) (st' := [.int 3, .int (nI g), .ref 74]) rfl ?_
    refine wp_callV (o := 74) (as := [.int (nI g), .int 3]) (rest := []) (els := [.ref 74, .int (nI g), .int 3]) rfl rfl rfl rfl rfl rfl rfl rfl (by omega) ?_
    refine sp_about (w := 3) (-1) e5 (by omega) (by omega) ?_
    show am_wp L xs _ _ _ _ 6 [.ref 74, .int (nI g), am_du] [.int (-1)] (am_S b) h _
    refine wp_run 2 (pc' := 8) (ls' := [.ref 74, .int (nI g), .int (-1)]) (st' := [.int (-1)]) rfl ?_
    refine wp_if_f rfl (show ¬ (0 ≤ ((-1) : Int32)) from by decide) ?_
    refine wp_run 2 (pc' := 21) (ls' := [.ref 74, .int (nI g), .int (-1)]) (st' := [.int 0]) rfl ?_
    refine wp_ret rfl ?_
    exact k2
  · have k2 := kk
    unfold ms_mkn at k2
    rw [ej, if_neg (pu_ne1 (by omega)), nI_clamp (by omega)] at k2
    refine wp_run 3 (pc' := 3) (ls' := [.ref 74, .int (nI g), am_du]) (st' := [.int 3, .int (nI g), .ref 74]) rfl ?_
    refine wp_callV (o := 74) (as := [.int (nI g), .int 3]) (rest := []) (els := [.ref 74, .int (nI g), .int 3]) rfl rfl rfl rfl rfl rfl rfl rfl (by omega) ?_
    refine sp_about (w := 3) (nI j) ej (by omega) (by omega) ?_
    show am_wp L xs _ _ _ _ 6 [.ref 74, .int (nI g), am_du] [.int (nI j)] (am_S b) h _
    refine wp_run 2 (pc' := 8) (ls' := [.ref 74, .int (nI g), .int (nI j)]) (st' := [.int (nI j)]) rfl ?_
    refine wp_if_t rfl (show 0 ≤ (nI j) from (nI_leI (a := 0) (b := j) (by omega) (by omega)).mpr (by omega)) ?_
    refine wp_run 3 (pc' := 18) (ls' := [.ref 74, .int (nI g), .int (nI j)]) (st' := [.int (nI g), .int (nI j), .ref 74]) rfl ?_
    refine wp_callV (o := 74) (as := [.int (nI j), .int (nI g)]) (rest := []) (els := [.ref 74, .int (nI j), .int (nI g)]) rfl rfl rfl rfl rfl rfl rfl rfl (by omega) ?_
    refine sp_doneIn HM hj hg (by omega) (fun gz => ?_)
    show am_wp L xs _ _ _ _ 21 [.ref 74, .int (nI g), .int (nI j)] [.int (ms_mk h s1 p1 j g)] (am_S b) (am_ov h [83, 84] gz) _
    refine wp_ret rfl ?_
    exact k2 gz
theorem lp_whoWears {L : Nat} {xs : Nat → Int32} {d ms b : Nat} {h : am_HI} {Q : am_Q} {v : Int32} {n : Nat} (hm2 : h 75 2 = nI n) (hn7 : n ≤ 7) (hd : 1 ≤ d) (kt : ∀ g, g < n → (∀ q, q < g → h 75 (7 + 4 * q + 3) ≠ v) → h 75 (7 + 4 * g + 3) = v → Q (some (.int (nI g))) (am_S b) h) (kf : (∀ g, g < n → h 75 (7 + 4 * g + 3) ≠ v) → Q (some (.int (-1))) (am_S b) h) :
    ∀ (m i : Nat) (hx : ∀ q, q < i → h 75 (7 + 4 * q + 3) ≠ v), i + m = n → am_wp L xs d 0 ms 149 2 [.ref 74, .int v, .int (nI i)] [] (am_S b) h Q := by
  intro m
  induction m with
  | zero =>
    intro i hx hi
    refine wp_run 2 (pc' := 4) (ls' := [.ref 74, .int v, .int (nI i)]) (st' := [.ref 74, .int (nI i)]) rfl ?_
    refine wp_getr 75 rfl rfl rfl ?_
    refine wp_run 1 (pc' := 8) (ls' := [.ref 74, .int v, .int (nI i)]) (st' := [.int 2, .ref 75, .int (nI i)]) rfl ?_
    refine wp_ald (i := 2) (nI n) hm2 rfl rfl rfl (by decide) rfl ?_
    refine wp_icmp_t rfl (show (nI n) ≤ (nI i) from (nI_leI (a := n) (b := i) (by omega) (by omega)).mpr (by omega)) ?_
    refine wp_run 1 (pc' := 31) (ls' := [.ref 74, .int v, .int (nI i)]) (st' := [.int (-1)]) rfl ?_
    refine wp_ret rfl ?_
    have e : i = n := by omega
    subst e
    exact kf hx
  | succ m ih =>
    intro i hx hi
    refine wp_run 2 (pc' := 4) (ls' := [.ref 74, .int v, .int (nI i)]) (st' := [.ref 74, .int (nI i)]) rfl ?_
    refine wp_getr 75 rfl rfl rfl ?_
    refine wp_run 1 (pc' := 8) (ls' := [.ref 74, .int v, .int (nI i)]) (st' := [.int 2, .ref 75, .int (nI i)]) rfl ?_
    refine wp_ald (i := 2) (nI n) hm2 rfl rfl rfl (by decide) rfl ?_
    refine wp_icmp_f rfl (show ¬ ((nI n) ≤ (nI i)) from mt (nI_leI (a := n) (b := i) (by omega) (by omega)).mp (by omega)) ?_
    refine wp_run 3 (pc' := 15) (ls' := [.ref 74, .int v, .int (nI i)]) (st' := [.int 3, .int (nI i), .ref 74]) rfl ?_
    refine wp_callV (o := 74) (as := [.int (nI i), .int 3]) (rest := []) (els := [.ref 74, .int (nI i), .int 3]) rfl rfl rfl rfl rfl rfl rfl rfl (by omega) ?_
    refine sp_about (w := 3) (h 75 (7 + 4 * i + 3)) rfl (by omega) (by omega) ?_
    show am_wp L xs _ _ _ _ 18 [.ref 74, .int v, .int (nI i)] [.int (h 75 (7 + 4 * i + 3))] (am_S b) h _
    refine wp_run 1 (pc' := 19) (ls' := [.ref 74, .int v, .int (nI i)]) (st' := [.int v, .int (h 75 (7 + 4 * i + 3))]) rfl ?_
    refine wp_icmp rfl (fun (cq19 : ¬ (h 75 (7 + 4 * i + 3)) = v) => ?_) (fun (cq19 : ¬ (¬ (h 75 (7 + 4 * i + 3)) = v)) => ?_)
    · skip
      refine wp_run 2 (pc' := 2) (ls' := [.ref 74, .int v, .int ((nI i) + 1)]) (st' := []) rfl ?_
      rw [show (((nI i) + 1) : Int32) = (nI (i + 1)) from nI_add i 1]
      exact ih (i + 1) (fun g hg => by rcases Nat.lt_succ_iff_lt_or_eq.mp hg with q2 | q2; exact hx g q2; rw [q2]; exact cq19) (by omega)
    · skip
      replace cq19 := Decidable.not_not.mp cq19
      refine wp_run 1 (pc' := 23) (ls' := [.ref 74, .int v, .int (nI i)]) (st' := [.int (nI i)]) rfl ?_
      refine wp_ret rfl ?_
      exact kt i (by omega) hx cq19
theorem sp_whoWears {L : Nat} {xs : Nat → Int32} {d ms b : Nat} {h : am_HI} {Q : am_Q} {v : Int32} {n : Nat} (hm2 : h 75 2 = nI n) (hn7 : n ≤ 7) (hd : 1 ≤ d) (kt : ∀ g, g < n → (∀ q, q < g → h 75 (7 + 4 * q + 3) ≠ v) → h 75 (7 + 4 * g + 3) = v → Q (some (.int (nI g))) (am_S b) h) (kf : (∀ g, g < n → h 75 (7 + 4 * g + 3) ≠ v) → Q (some (.int (-1))) (am_S b) h) :
    am_wp L xs d 0 ms 149 0 [.ref 74, .int v, am_du] [] (am_S b) h Q := by
  refine wp_run 2 (pc' := 2) (ls' := [.ref 74, .int v, .int 0]) (st' := []) rfl ?_
  exact lp_whoWears hm2 hn7 hd kt kf n 0 (fun q hq => by omega) (by omega)
def ms_worn (f : Nat → Int32) : Nat → Nat
  | 0 => 0
  | g + 1 => if f g = -1 then ms_worn f g else pu_set (ms_worn f g) (f g).toNatClampNeg
theorem ms_worn_s1 {f : Nat → Int32} {g j : Nat} (e : f g = nI j) (hj : j < 7) : ms_worn f (g + 1) = pu_set (ms_worn f g) j := by
  show (if f g = -1 then ms_worn f g else pu_set (ms_worn f g) (f g).toNatClampNeg) = _
  rw [e, if_neg (pu_ne1 (by omega)), nI_clamp (by omega)]
theorem ms_worn_s0 {f : Nat → Int32} {g : Nat} (e : f g = -1) : ms_worn f (g + 1) = ms_worn f g := by
  show (if f g = -1 then ms_worn f g else pu_set (ms_worn f g) (f g).toNatClampNeg) = _
  rw [if_pos e]
theorem ms_worn_lt {f : Nat → Int32} {c : Nat} (hc : c ≤ 7) : ∀ n, (∀ g, g < n → f g = -1 ∨ ∃ j, j < c ∧ f g = nI j) → ms_worn f n < 128
  | 0, _ => by show 0 < 128; decide
  | n + 1, h => by
    have ih := ms_worn_lt hc n (fun g hg => h g (by omega))
    rcases h n (by omega) with e | ⟨j, hj, e⟩
    · rw [ms_worn_s0 e]; exact ih
    · rw [ms_worn_s1 e (by omega)]
      exact pu_set_lt _ ih _ (by omega)
theorem ms_worn_bit {f : Nat → Int32} {c : Nat} (hc : c ≤ 7) (k : Nat) (hk : k < 7) : ∀ n, (∀ g, g < n → f g = -1 ∨ ∃ j, j < c ∧ f g = nI j) → ((ms_worn f n).testBit k = true ↔ ∃ g, g < n ∧ f g = nI k)
  | 0, _ => by
    constructor
    · intro q
      simp [ms_worn] at q
    · rintro ⟨g, hg, -⟩
      omega
  | n + 1, h => by
    have h' : ∀ g, g < n → f g = -1 ∨ ∃ j, j < c ∧ f g = nI j := fun g hg => h g (by omega)
    have ih := ms_worn_bit hc k hk n h'
    have ilt := ms_worn_lt hc n h'
    rcases h n (by omega) with e | ⟨j, hj, e⟩
    · rw [ms_worn_s0 e, ih]
      constructor
      · rintro ⟨g, hg, q⟩
        exact ⟨g, by omega, q⟩
      · rintro ⟨g, hg, q⟩
        rcases Nat.lt_succ_iff_lt_or_eq.mp hg with q2 | q2
        · exact ⟨g, q2, q⟩
        · rw [q2, e] at q
          exact absurd q.symm (pu_ne1 (by omega))
    · rw [ms_worn_s1 e (by omega), pu_set_bit _ ilt j (by omega) k hk, Bool.or_eq_true, ih]
      constructor
      · rintro (⟨g, hg, q⟩ | q)
        · exact ⟨g, by omega, q⟩
        · have : k = j := by simpa using q
          exact ⟨n, by omega, by rw [this]; exact e⟩
      · rintro ⟨g, hg, q⟩
        rcases Nat.lt_succ_iff_lt_or_eq.mp hg with q2 | q2
        · exact Or.inl ⟨g, q2, q⟩
        · rw [q2, e] at q
          have := pu_inj (by omega) (by omega) q
          exact Or.inr (by simp [this])
theorem lp_worn {L : Nat} {xs : Nat → Int32} {d ms b : Nat} {h : am_HI} {Q : am_Q} {n c : Nat} (hm2 : h 75 2 = nI n) (hn7 : n ≤ 7) (hc7 : c ≤ 7) (hw : ∀ g, g < n → h 75 (7 + 4 * g + 3) = -1 ∨ ∃ j, j < c ∧ h 75 (7 + 4 * g + 3) = nI j) (hd : 1 ≤ d) (kk : Q (some (.int (nI (ms_worn (fun g => h 75 (7 + 4 * g + 3)) n)))) (am_S b) h) :
    ∀ (m i : Nat), i + m = n → am_wp L xs d 0 ms 159 4 [.ref 74, .int (nI (ms_worn (fun g => h 75 (7 + 4 * g + 3)) i)), .int (nI i)] [] (am_S b) h Q := by
  intro m
  induction m with
  | zero =>
    intro i hi
    refine wp_run 2 (pc' := 6) (ls' := [.ref 74, .int (nI (ms_worn (fun g => h 75 (7 + 4 * g + 3)) i)), .int (nI i)]) (st' := [.ref 74, .int (nI i)]) rfl ?_
    refine wp_getr 75 rfl rfl rfl ?_
    refine wp_run 1 (pc' := 10) (ls' := [.ref 74, .int (nI (ms_worn (fun g => h 75 (7 + 4 * g + 3)) i)), .int (nI i)]) (st' := [.int 2, .ref 75, .int (nI i)]) rfl ?_
    refine wp_ald (i := 2) (nI n) hm2 rfl rfl rfl (by decide) rfl ?_
    refine wp_icmp_t rfl (show (nI n) ≤ (nI i) from (nI_leI (a := n) (b := i) (by omega) (by omega)).mpr (by omega)) ?_
    refine wp_run 1 (pc' := 45) (ls' := [.ref 74, .int (nI (ms_worn (fun g => h 75 (7 + 4 * g + 3)) i)), .int (nI i)]) (st' := [.int (nI (ms_worn (fun g => h 75 (7 + 4 * g + 3)) i))]) rfl ?_
    refine wp_ret rfl ?_
    have e : i = n := by omega
    subst e
    exact kk
  | succ m ih =>
    intro i hi
    rcases hw i (by omega) with e5 | ⟨j, hj, ej⟩
    · skip
      refine wp_run 2 (pc' := 6) (ls' := [.ref 74, .int (nI (ms_worn (fun g => h 75 (7 + 4 * g + 3)) i)), .int (nI i)]) (st' := [.ref 74, .int (nI i)]) rfl ?_
      refine wp_getr 75 rfl rfl rfl ?_
      refine wp_run 1 (pc' := 10) (ls' := [.ref 74, .int (nI (ms_worn (fun g => h 75 (7 + 4 * g + 3)) i)), .int (nI i)]) (st' := [.int 2, .ref 75, .int (nI i)]) rfl ?_
      refine wp_ald (i := 2) (nI n) hm2 rfl rfl rfl (by decide) rfl ?_
      refine wp_icmp_f rfl (show ¬ ((nI n) ≤ (nI i)) from mt (nI_leI (a := n) (b := i) (by omega) (by omega)).mp (by omega)) ?_
      refine wp_run 4 (pc' := 18) (ls' := [.ref 74, .int (nI (ms_worn (fun g => h 75 (7 + 4 * g + 3)) i)), .int (nI i)]) (st' := [.int 3, .int (nI i), .ref 74, .int (nI (ms_worn (fun g => h 75 (7 + 4 * g + 3)) i))]) rfl ?_
      refine wp_callV (o := 74) (as := [.int (nI i), .int 3]) (rest := [.int (nI (ms_worn (fun g => h 75 (7 + 4 * g + 3)) i))]) (els := [.ref 74, .int (nI i), .int 3]) rfl rfl rfl rfl rfl rfl rfl rfl (by omega) ?_
      refine sp_about (w := 3) (-1) e5 (by omega) (by omega) ?_
      show am_wp L xs _ _ _ _ 21 [.ref 74, .int (nI (ms_worn (fun g => h 75 (7 + 4 * g + 3)) i)), .int (nI i)] [.int (-1), .int (nI (ms_worn (fun g => h 75 (7 + 4 * g + 3)) i))] (am_S b) h _
      refine wp_if_f rfl (show ¬ (0 ≤ ((-1) : Int32)) from by decide) ?_
      refine wp_run 6 (pc' := 4) (ls' := [.ref 74, .int ((nI (ms_worn (fun g => h 75 (7 + 4 * g + 3)) i)) ||| 0), .int ((nI i) + 1)]) (st' := []) rfl ?_
      rw [show (((nI i) + 1) : Int32) = (nI (i + 1)) from nI_add i 1]
      rw [show (((nI (ms_worn (fun g => h 75 (7 + 4 * g + 3)) i)) ||| 0) : Int32) = nI (ms_worn (fun g => h 75 (7 + 4 * g + 3)) (i + 1)) from by rw [ms_worn_s0 (f := (fun g => h 75 (7 + 4 * g + 3))) e5]; exact Int32.or_zero]
      exact ih (i + 1) (by omega)
    · skip
      refine wp_run 2 (pc' := 6) (ls' := [.ref 74, .int (nI (ms_worn (fun g => h 75 (7 + 4 * g + 3)) i)), .int (nI i)]) (st' := [.ref 74, .int (nI i)]) rfl ?_
      refine wp_getr 75 rfl rfl rfl ?_
      refine wp_run 1 (pc' := 10) (ls' := [.ref 74, .int (nI (ms_worn (fun g => h 75 (7 + 4 * g + 3)) i)), .int (nI i)]) (st' := [.int 2, .ref 75, .int (nI i)]) rfl ?_
      refine wp_ald (i := 2) (nI n) hm2 rfl rfl rfl (by decide) rfl ?_
      refine wp_icmp_f rfl (show ¬ ((nI n) ≤ (nI i)) from mt (nI_leI (a := n) (b := i) (by omega) (by omega)).mp (by omega)) ?_
      refine wp_run 4 (pc' := 18) (ls' := [.ref 74, .int (nI (ms_worn (fun g => h 75 (7 + 4 * g + 3)) i)), .int (nI i)]) (st' := [.int 3, .int (nI i), .ref 74, .int (nI (ms_worn (fun g => h 75 (7 + 4 * g + 3)) i))]) rfl ?_
      refine wp_callV (o := 74) (as := [.int (nI i), .int 3]) (rest := [.int (nI (ms_worn (fun g => h 75 (7 + 4 * g + 3)) i))]) (els := [.ref 74, .int (nI i), .int 3]) rfl rfl rfl rfl rfl rfl rfl rfl (by omega) ?_
      refine sp_about (w := 3) (nI j) ej (by omega) (by omega) ?_
      show am_wp L xs _ _ _ _ 21 [.ref 74, .int (nI (ms_worn (fun g => h 75 (7 + 4 * g + 3)) i)), .int (nI i)] [.int (nI j), .int (nI (ms_worn (fun g => h 75 (7 + 4 * g + 3)) i))] (am_S b) h _
      refine wp_if_t rfl (show 0 ≤ (nI j) from (nI_leI (a := 0) (b := j) (by omega) (by omega)).mpr (by omega)) ?_
      refine wp_run 4 (pc' := 32) (ls' := [.ref 74, .int (nI (ms_worn (fun g => h 75 (7 + 4 * g + 3)) i)), .int (nI i)]) (st' := [.int 3, .int (nI i), .ref 74, .int 1, .int (nI (ms_worn (fun g => h 75 (7 + 4 * g + 3)) i))]) rfl ?_
      refine wp_callV (o := 74) (as := [.int (nI i), .int 3]) (rest := [.int 1, .int (nI (ms_worn (fun g => h 75 (7 + 4 * g + 3)) i))]) (els := [.ref 74, .int (nI i), .int 3]) rfl rfl rfl rfl rfl rfl rfl rfl (by omega) ?_
      refine sp_about (w := 3) (nI j) ej (by omega) (by omega) ?_
      show am_wp L xs _ _ _ _ 35 [.ref 74, .int (nI (ms_worn (fun g => h 75 (7 + 4 * g + 3)) i)), .int (nI i)] [.int (nI j), .int 1, .int (nI (ms_worn (fun g => h 75 (7 + 4 * g + 3)) i))] (am_S b) h _
      refine wp_run 5 (pc' := 4) (ls' := [.ref 74, .int ((nI (ms_worn (fun g => h 75 (7 + 4 * g + 3)) i)) ||| (1 <<< ((nI j) &&& 31))), .int ((nI i) + 1)]) (st' := []) rfl ?_
      rw [show (((nI i) + 1) : Int32) = (nI (i + 1)) from nI_add i 1]
      rw [show (((nI (ms_worn (fun g => h 75 (7 + 4 * g + 3)) i)) ||| (1 <<< ((nI j) &&& 31))) : Int32) = nI (ms_worn (fun g => h 75 (7 + 4 * g + 3)) (i + 1)) from by rw [ms_worn_s1 (f := (fun g => h 75 (7 + 4 * g + 3))) ej (by omega)]; exact pu_set_i _ (ms_worn_lt hc7 i (fun g hg => hw g (by omega))) j (by omega)]
      exact ih (i + 1) (by omega)
theorem sp_worn {L : Nat} {xs : Nat → Int32} {d ms b : Nat} {h : am_HI} {Q : am_Q} {n c : Nat} (hm2 : h 75 2 = nI n) (hn7 : n ≤ 7) (hc7 : c ≤ 7) (hw : ∀ g, g < n → h 75 (7 + 4 * g + 3) = -1 ∨ ∃ j, j < c ∧ h 75 (7 + 4 * g + 3) = nI j) (hd : 1 ≤ d) (kk : Q (some (.int (nI (ms_worn (fun g => h 75 (7 + 4 * g + 3)) n)))) (am_S b) h) :
    am_wp L xs d 0 ms 159 0 [.ref 74, am_du, am_du] [] (am_S b) h Q := by
  refine wp_run 4 (pc' := 4) (ls' := [.ref 74, .int 0, .int 0]) (st' := []) rfl ?_
  exact lp_worn hm2 hn7 hc7 hw hd kk n 0 (by omega)
