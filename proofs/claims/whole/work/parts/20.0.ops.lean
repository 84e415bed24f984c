/-! calls tied: what changes nothing but scratch cells; errors -/
theorem re_im_s {N : Nat} {x md : Nat → Int32} {K : Prop} {k0 k1 : Nat → Int32} (h : re_im N x md K k0 k1) : re_im (N + 1) x md K k0 k1 := by
  obtain ⟨⟨im, h1, h2⟩, h3⟩ := h
  exact ⟨⟨im, by omega, h2⟩, h3⟩
theorem re_er_u {a b : Nat → Int32} {k : Nat} (h : re_er a b) (h1 : 1 ≤ k) (h6 : k ≤ 6) : re_er (upd a k (a k + 1)) (upd b k (b k + 1)) := by
  intro q q1 q6
  unfold upd
  by_cases e : q = k
  · rw [if_pos e, if_pos e, h k h1 h6]
  · rw [if_neg e, if_neg e]
    exact h q q1 q6
theorem re_err1 {N : Nat} {h : am_HI} (hR : am_Rel N h) : am_Rel (N + 1) (am_u (am_u h 73 1 (h 73 1 + 1)) 77 1 (h 77 1 + 1)) := by
  obtain ⟨⟨n, c, t, tp, wt, s0, s1, p0, p1, H⟩, hI, hE, hS0, hS1, hS2, hS3, hT⟩ := hR
  exact ⟨⟨n, c, t, tp, wt, s0, s1, p0, p1, H⟩, re_im_s hI, re_er_u hE (by decide) (by decide), hS0, hS1, hS2, hS3, hT⟩
theorem re_err2 {N : Nat} {h : am_HI} (hR : am_Rel N h) : am_Rel (N + 1) (am_u (am_u h 73 2 (h 73 2 + 1)) 77 2 (h 77 2 + 1)) := by
  obtain ⟨⟨n, c, t, tp, wt, s0, s1, p0, p1, H⟩, hI, hE, hS0, hS1, hS2, hS3, hT⟩ := hR
  exact ⟨⟨n, c, t, tp, wt, s0, s1, p0, p1, H⟩, re_im_s hI, re_er_u hE (by decide) (by decide), hS0, hS1, hS2, hS3, hT⟩
theorem re_err3 {N : Nat} {h : am_HI} (hR : am_Rel N h) : am_Rel (N + 1) (am_u (am_u h 73 3 (h 73 3 + 1)) 77 3 (h 77 3 + 1)) := by
  obtain ⟨⟨n, c, t, tp, wt, s0, s1, p0, p1, H⟩, hI, hE, hS0, hS1, hS2, hS3, hT⟩ := hR
  exact ⟨⟨n, c, t, tp, wt, s0, s1, p0, p1, H⟩, re_im_s hI, re_er_u hE (by decide) (by decide), hS0, hS1, hS2, hS3, hT⟩
theorem re_err4 {N : Nat} {h : am_HI} (hR : am_Rel N h) : am_Rel (N + 1) (am_u (am_u h 73 4 (h 73 4 + 1)) 77 4 (h 77 4 + 1)) := by
  obtain ⟨⟨n, c, t, tp, wt, s0, s1, p0, p1, H⟩, hI, hE, hS0, hS1, hS2, hS3, hT⟩ := hR
  exact ⟨⟨n, c, t, tp, wt, s0, s1, p0, p1, H⟩, re_im_s hI, re_er_u hE (by decide) (by decide), hS0, hS1, hS2, hS3, hT⟩
theorem re_err5 {N : Nat} {h : am_HI} (hR : am_Rel N h) : am_Rel (N + 1) (am_u (am_u h 73 5 (h 73 5 + 1)) 77 5 (h 77 5 + 1)) := by
  obtain ⟨⟨n, c, t, tp, wt, s0, s1, p0, p1, H⟩, hI, hE, hS0, hS1, hS2, hS3, hT⟩ := hR
  exact ⟨⟨n, c, t, tp, wt, s0, s1, p0, p1, H⟩, re_im_s hI, re_er_u hE (by decide) (by decide), hS0, hS1, hS2, hS3, hT⟩
theorem re_err6 {N : Nat} {h : am_HI} (hR : am_Rel N h) : am_Rel (N + 1) (am_u (am_u h 73 6 (h 73 6 + 1)) 77 6 (h 77 6 + 1)) := by
  obtain ⟨⟨n, c, t, tp, wt, s0, s1, p0, p1, H⟩, hI, hE, hS0, hS1, hS2, hS3, hT⟩ := hR
  exact ⟨⟨n, c, t, tp, wt, s0, s1, p0, p1, H⟩, re_im_s hI, re_er_u hE (by decide) (by decide), hS0, hS1, hS2, hS3, hT⟩
/-- a law speaks of its own places alone -/
theorem re_law_m {l c r m m2 : Nat → Int32} {at_ : Nat} {lo hi s : Int32} {p : List Int32} (h : re_law l c r m at_ lo hi s p) (e : ∀ i, at_ ≤ i → i < at_ + 121 → m2 i = m i) : re_law l c r m2 at_ lo hi s p := by
  obtain ⟨h1, h2⟩ := h
  refine ⟨h1, ?_⟩
  have hl := h1.2.2.1
  rcases h2 with ⟨h3, h4⟩ | ⟨h3, h4, h5, h6⟩
  · exact Or.inl ⟨h3, by rw [e _ (by omega) (by omega)]; exact h4⟩
  · refine Or.inr ⟨h3, by rw [e _ (by omega) (by omega)]; exact h4, h5, fun i hi => ?_⟩
    rw [e _ (by omega) (by omega), e _ (by omega) (by omega)]
    exact h6 i hi
theorem re_H_z {h : am_HI} {n c t tp wt : Nat} {s0 s1 : Int32} {p0 p1 : List Int32} (H : re_H h n c t tp wt s0 s1 p0 p1) (v : Int32) : re_H (am_u (am_u h 1 14 v) 75 1 v) n c t tp wt s0 s1 p0 p1 :=
  ⟨H.1, H.2.1, H.2.2.1, ⟨H.2.2.2.1.1, rfl⟩, fun g hg => by
    obtain ⟨h1, h2, h3, h4⟩ := H.2.2.2.2.1 g hg
    have q : ∀ w, upd (h 75) 1 v (7 + 4 * g + w) = h 75 (7 + 4 * g + w) := fun w => if_neg (by omega)
    exact ⟨h1.trans (q 0).symm, h2.trans (q 1).symm, h3.trans (q 2).symm, h4.trans (q 3).symm⟩, fun j hj => by
    obtain ⟨h1, h2, h3⟩ := H.2.2.2.2.2.1 j hj
    have q : ∀ w, upd (h 75) 1 v (35 + 3 * j + w) = h 75 (35 + 3 * j + w) := fun w => if_neg (by omega)
    exact ⟨h1.trans (q 0).symm, h2.trans (q 1).symm, h3.trans (q 2).symm⟩, H.2.2.2.2.2.2.1, H.2.2.2.2.2.2.2.1, ⟨H.2.2.2.2.2.2.2.2.1.1, H.2.2.2.2.2.2.2.2.1.2.1, H.2.2.2.2.2.2.2.2.1.2.2.1, fun i hi => (H.2.2.2.2.2.2.2.2.1.2.2.2 i hi).trans (show h 75 (56 + i) = upd (h 75) 1 v (56 + i) from (if_neg (by omega)).symm)⟩,
    ⟨H.2.2.2.2.2.2.2.2.2.1.1, H.2.2.2.2.2.2.2.2.2.1.2.1, H.2.2.2.2.2.2.2.2.2.1.2.2.1, fun i hi => (H.2.2.2.2.2.2.2.2.2.1.2.2.2 i hi).trans (show h 75 (116 + i) = upd (h 75) 1 v (116 + i) from (if_neg (by omega)).symm)⟩,
    re_law_m H.2.2.2.2.2.2.2.2.2.2.1 (fun i h1 h2 => if_neg (by omega)), re_law_m H.2.2.2.2.2.2.2.2.2.2.2 (fun i h1 h2 => if_neg (by omega))⟩
theorem op_seed {L : Nat} {xs : Nat → Int32} {d ms b N : Nat} {h : am_HI} {Q : am_Q} {x1 : Int32} (hd : 30 ≤ d) (hR : am_Rel N h) (hN : N < 100000)
    (kk : ∀ v b1 h1, (∀ ms2 Q2, (∀ b2 h2, am_Rel (N + 1) h2 → Q2 (some (.int v)) (am_S b2) h2) → am_wp L xs d 0 ms2 182 0 [.ref 74, .int x1] [] (am_S b1) h1 Q2) → Q (some (.int v)) (am_S b1) h1) :
    am_wp L xs d 0 ms 75 0 [.ref 0, .int x1, am_du] [] (am_S b) h Q := by
  obtain ⟨⟨n, c, t, tp, wt, s0, s1, p0, p1, H⟩, hI, hE, hS0, hS1, hS2, hS3, hT⟩ := id hR
  have hn := H.1.1
  have hm2 := H.1.2.1
  have hn7 := H.1.2.2
  have hc := H.2.1.1
  have hm3 := H.2.1.2.1
  have hc7 := H.2.1.2.2
  have ht := H.2.2.1.1
  have hm0 := H.2.2.1.2.1
  have ht9 := H.2.2.1.2.2
  have HS := re_hs H
  have HM := re_ms H
  refine wp_run 1 (pc' := 1) (ls' := [.ref 0, .int x1, am_du]) (st' := [.ref 0]) rfl ?_
  refine wp_getr 1 rfl rfl rfl ?_
  refine wp_geti (a := 14) (h 1 14) rfl rfl rfl rfl ?_
  refine wp_run 2 (pc' := 9) (ls' := [.ref 0, .int x1, .int (h 1 14)]) (st' := [.ref 0]) rfl ?_
  refine wp_getr 1 rfl rfl rfl ?_
  refine wp_run 1 (pc' := 13) (ls' := [.ref 0, .int x1, .int (h 1 14)]) (st' := [.int x1, .ref 1]) rfl ?_
  refine wp_puti rfl rfl ?_
  refine wp_run 1 (pc' := 17) (ls' := [.ref 0, .int x1, .int (h 1 14)]) (st' := [.int (h 1 14)]) rfl ?_
  refine wp_ret rfl ?_
  refine kk _ _ _ (fun ms2 Q2 kk2 => ?_)
  refine wp_run 3 (pc' := 3) (ls' := [.ref 74, .int x1]) (st' := [.int x1, .int 1, .ref 74]) rfl ?_
  refine wp_callV (o := 74) (as := [.int 1, .int x1]) (rest := []) (els := [.ref 74, .int 1, .int x1, am_du]) rfl rfl rfl rfl rfl rfl rfl rfl (by omega) ?_
  refine sp_becomes (p := 1) (by omega) ?_
  rw [show (am_u h 1 14 x1) 75 1 = (h 75 1) from rfl]
  show am_wp L xs _ _ _ _ 6 [.ref 74, .int x1] [.int (h 75 1)] (am_S b) (am_u (am_u h 1 14 x1) 75 1 x1) _
  refine wp_ret rfl ?_
  rw [show ((h 75 1) : Int32) = (h 1 14) from H.2.2.2.1.2.symm]
  exact kk2 _ _ ⟨⟨n, c, t, tp, wt, s0, s1, p0, p1, re_H_z H x1⟩, re_im_s hI, hE, hS0, hS1, hS2, hS3, hT⟩
theorem op_like {L : Nat} {xs : Nat → Int32} {d ms b N : Nat} {h : am_HI} {Q : am_Q} {x1 : Int32} {x2 : Int32} (hd : 30 ≤ d) (hR : am_Rel N h) (hN : N < 100000)
    (kk : ∀ v b1 h1, (∀ ms2 Q2, (∀ b2 h2, am_Rel (N + 1) h2 → Q2 (some (.int v)) (am_S b2) h2) → am_wp L xs d 0 ms2 153 0 [.ref 74, .int x1, .int x2] [] (am_S b1) h1 Q2) → Q (some (.int v)) (am_S b1) h1) :
    am_wp L xs d 0 ms 35 0 [.ref 0, .int x1, .int x2] [] (am_S b) h Q := by
  obtain ⟨⟨n, c, t, tp, wt, s0, s1, p0, p1, H⟩, hI, hE, hS0, hS1, hS2, hS3, hT⟩ := id hR
  have hn := H.1.1
  have hm2 := H.1.2.1
  have hn7 := H.1.2.2
  have hc := H.2.1.1
  have hm3 := H.2.1.2.1
  have hc7 := H.2.1.2.2
  have ht := H.2.2.1.1
  have hm0 := H.2.2.1.2.1
  have ht9 := H.2.2.1.2.2
  have HS := re_hs H
  have HM := re_ms H
  refine wp_run 1 (pc' := 1) (ls' := [.ref 0, .int x1, .int x2]) (st' := [.ref 0]) rfl ?_
  refine wp_getr 1 rfl rfl rfl ?_
  refine wp_run 1 (pc' := 5) (ls' := [.ref 0, .int x1, .int x2]) (st' := [.int x1, .ref 1]) rfl ?_
  refine wp_callV (o := 1) (as := [.int x1]) (rest := []) (els := [.ref 1, .int x1]) rfl rfl rfl rfl rfl rfl rfl rfl (by omega) ?_
  refine sp_hasCoat hc hc7 (by omega) ?_ ?_
  · skip
    intro kx1 hkx1 ex1
    subst ex1
    show am_wp L xs _ _ _ _ 8 [.ref 0, .int (nI kx1), .int x2] [.int 1] (am_S b) h _
    refine wp_if_f rfl (show ¬ ((1 : Int32) = 0) from by decide) ?_
    refine wp_run 1 (pc' := 12) (ls' := [.ref 0, .int (nI kx1), .int x2]) (st' := [.ref 0]) rfl ?_
    refine wp_getr 1 rfl rfl rfl ?_
    refine wp_run 1 (pc' := 16) (ls' := [.ref 0, .int (nI kx1), .int x2]) (st' := [.int x2, .ref 1]) rfl ?_
    refine wp_callV (o := 1) (as := [.int x2]) (rest := []) (els := [.ref 1, .int x2]) rfl rfl rfl rfl rfl rfl rfl rfl (by omega) ?_
    refine sp_hasGuest hn hn7 (by omega) ?_ ?_
    · skip
      intro kx2 hkx2 ex2
      subst ex2
      show am_wp L xs _ _ _ _ 19 [.ref 0, .int (nI kx1), .int (nI kx2)] [.int 1] (am_S b) h _
      refine wp_if_t rfl (show ¬ (1 : Int32) = 0 from by decide) ?_
      refine wp_run 1 (pc' := 29) (ls' := [.ref 0, .int (nI kx1), .int (nI kx2)]) (st' := [.ref 0]) rfl ?_
      refine wp_getr 1 rfl rfl rfl ?_
      refine wp_run 2 (pc' := 34) (ls' := [.ref 0, .int (nI kx1), .int (nI kx2)]) (st' := [.int (nI kx2), .int (nI kx1), .ref 1]) rfl ?_
      refine wp_callV (o := 1) (as := [.int (nI kx1), .int (nI kx2)]) (rest := []) (els := [.ref 1, .int (nI kx1), .int (nI kx2)]) rfl rfl rfl rfl rfl rfl rfl rfl (by omega) ?_
      refine sp_liking (h := h) HS (j := kx1) (g := kx2) (by omega) (by omega) (by omega) ?_
      intro gz1
      show am_wp L xs _ _ _ _ 37 [.ref 0, .int (nI kx1), .int (nI kx2)] [.int (hs_lk h s0 p0 kx1 kx2)] (am_S b) (am_ov h [17, 18] gz1) _
      refine wp_ret rfl ?_
      refine kk _ _ _ (fun ms2 Q2 kk2 => ?_)
      refine wp_run 2 (pc' := 2) (ls' := [.ref 74, .int (nI kx1), .int (nI kx2)]) (st' := [.int (nI kx1), .ref 74]) rfl ?_
      refine wp_callV (o := 74) (as := [.int (nI kx1)]) (rest := []) (els := [.ref 74, .int (nI kx1)]) rfl rfl rfl rfl rfl rfl rfl rfl (by omega) ?_
      refine sp_m_isCoat hm3 hc7 (by omega) (fun _ _ _ => ?_) (fun q => absurd rfl (q kx1 (by omega)))
      show am_wp L xs _ _ _ _ 5 [.ref 74, .int (nI kx1), .int (nI kx2)] [.int 1] (am_S b) (am_ov h [17, 18] gz1) _
      refine wp_if_f rfl (show ¬ ((1 : Int32) = 0) from by decide) ?_
      refine wp_run 2 (pc' := 10) (ls' := [.ref 74, .int (nI kx1), .int (nI kx2)]) (st' := [.int (nI kx2), .ref 74]) rfl ?_
      refine wp_callV (o := 74) (as := [.int (nI kx2)]) (rest := []) (els := [.ref 74, .int (nI kx2)]) rfl rfl rfl rfl rfl rfl rfl rfl (by omega) ?_
      refine sp_m_isGuest hm2 hn7 (by omega) (fun _ _ _ => ?_) (fun q => absurd rfl (q kx2 (by omega)))
      show am_wp L xs _ _ _ _ 13 [.ref 74, .int (nI kx1), .int (nI kx2)] [.int 1] (am_S b) (am_ov h [17, 18] gz1) _
      refine wp_if_f rfl (show ¬ ((1 : Int32) = 0) from by decide) ?_
      refine wp_run 3 (pc' := 19) (ls' := [.ref 74, .int (nI kx1), .int (nI kx2)]) (st' := [.int (nI kx2), .int (nI kx1), .ref 74]) rfl ?_
      refine wp_callV (o := 74) (as := [.int (nI kx1), .int (nI kx2)]) (rest := []) (els := [.ref 74, .int (nI kx1), .int (nI kx2)]) rfl rfl rfl rfl rfl rfl rfl rfl (by omega) ?_
      refine sp_likeOf (h := (am_ov h [17, 18] gz1)) HM (j := kx1) (g := kx2) (by omega) (by omega) (by omega) ?_
      intro gz2
      show am_wp L xs _ _ _ _ 22 [.ref 74, .int (nI kx1), .int (nI kx2)] [.int (ms_lk h s0 p0 kx1 kx2)] (am_S b) (am_ov (am_ov h [17, 18] gz1) [83, 84] gz2) _
      refine wp_run 1 (pc' := 31) (ls' := [.ref 74, .int (nI kx1), .int (nI kx2)]) (st' := [.int (ms_lk h s0 p0 kx1 kx2)]) rfl ?_
      refine wp_ret rfl ?_
      rw [show ((ms_lk h s0 p0 kx1 kx2) : Int32) = (hs_lk h s0 p0 kx1 kx2) from re_lk H (by omega) (by omega)]
      exact kk2 _ _ ⟨⟨n, c, t, tp, wt, s0, s1, p0, p1, H⟩, re_im_s hI, hE, hS0, hS1, hS2, hS3, hT⟩
    · skip
      intro hnx2
      show am_wp L xs _ _ _ _ 19 [.ref 0, .int (nI kx1), .int x2] [.int 0] (am_S b) h _
      refine wp_if_f rfl (show ¬ (¬ (0 : Int32) = 0) from by decide) ?_
      refine wp_run 2 (pc' := 24) (ls' := [.ref 0, .int (nI kx1), .int x2]) (st' := [.int 1, .ref 0]) rfl ?_
      refine wp_callV (o := 0) (as := [.int 1]) (rest := []) (els := [.ref 0, .int 1]) rfl rfl rfl rfl rfl rfl rfl rfl (by omega) ?_
      refine sp_refuse1 (by omega) ?_
      show am_wp L xs _ _ _ _ 27 [.ref 0, .int (nI kx1), .int x2] [.int (-1000000001)] (am_S b) (am_u h 73 1 (h 73 1 + 1)) _
      refine wp_ret rfl ?_
      refine kk _ _ _ (fun ms2 Q2 kk2 => ?_)
      refine wp_run 2 (pc' := 2) (ls' := [.ref 74, .int (nI kx1), .int x2]) (st' := [.int (nI kx1), .ref 74]) rfl ?_
      refine wp_callV (o := 74) (as := [.int (nI kx1)]) (rest := []) (els := [.ref 74, .int (nI kx1)]) rfl rfl rfl rfl rfl rfl rfl rfl (by omega) ?_
      refine sp_m_isCoat hm3 hc7 (by omega) (fun _ _ _ => ?_) (fun q => absurd rfl (q kx1 (by omega)))
      show am_wp L xs _ _ _ _ 5 [.ref 74, .int (nI kx1), .int x2] [.int 1] (am_S b) (am_u h 73 1 (h 73 1 + 1)) _
      refine wp_if_f rfl (show ¬ ((1 : Int32) = 0) from by decide) ?_
      refine wp_run 2 (pc' := 10) (ls' := [.ref 74, .int (nI kx1), .int x2]) (st' := [.int x2, .ref 74]) rfl ?_
      refine wp_callV (o := 74) (as := [.int x2]) (rest := []) (els := [.ref 74, .int x2]) rfl rfl rfl rfl rfl rfl rfl rfl (by omega) ?_
      refine sp_m_isGuest hm2 hn7 (by omega) (fun k hk e => absurd e (hnx2 k hk)) (fun _ => ?_)
      show am_wp L xs _ _ _ _ 13 [.ref 74, .int (nI kx1), .int x2] [.int 0] (am_S b) (am_u h 73 1 (h 73 1 + 1)) _
      refine wp_if_t rfl (show (0 : Int32) = 0 from by decide) ?_
      refine wp_run 2 (pc' := 28) (ls' := [.ref 74, .int (nI kx1), .int x2]) (st' := [.int (-1000000001), .ref 74]) rfl ?_
      refine wp_callV (o := 74) (as := [.int (-1000000001)]) (rest := []) (els := [.ref 74, .int (-1000000001)]) rfl rfl rfl rfl rfl rfl rfl rfl (by omega) ?_
      refine sp_error1 ?_
      show am_wp L xs _ _ _ _ 31 [.ref 74, .int (nI kx1), .int x2] [.int (-1000000001)] (am_S b) (am_u (am_u h 73 1 (h 73 1 + 1)) 77 1 ((am_u h 73 1 (h 73 1 + 1)) 77 1 + 1)) _
      refine wp_ret rfl ?_
      exact kk2 _ _ (re_err1 hR)
  · skip
    intro hnx1
    show am_wp L xs _ _ _ _ 8 [.ref 0, .int x1, .int x2] [.int 0] (am_S b) h _
    refine wp_if_t rfl (show (0 : Int32) = 0 from by decide) ?_
    refine wp_run 2 (pc' := 24) (ls' := [.ref 0, .int x1, .int x2]) (st' := [.int 1, .ref 0]) rfl ?_
    refine wp_callV (o := 0) (as := [.int 1]) (rest := []) (els := [.ref 0, .int 1]) rfl rfl rfl rfl rfl rfl rfl rfl (by omega) ?_
    refine sp_refuse1 (by omega) ?_
    show am_wp L xs _ _ _ _ 27 [.ref 0, .int x1, .int x2] [.int (-1000000001)] (am_S b) (am_u h 73 1 (h 73 1 + 1)) _
    refine wp_ret rfl ?_
    refine kk _ _ _ (fun ms2 Q2 kk2 => ?_)
    refine wp_run 2 (pc' := 2) (ls' := [.ref 74, .int x1, .int x2]) (st' := [.int x1, .ref 74]) rfl ?_
    refine wp_callV (o := 74) (as := [.int x1]) (rest := []) (els := [.ref 74, .int x1]) rfl rfl rfl rfl rfl rfl rfl rfl (by omega) ?_
    refine sp_m_isCoat hm3 hc7 (by omega) (fun k hk e => absurd e (hnx1 k hk)) (fun _ => ?_)
    show am_wp L xs _ _ _ _ 5 [.ref 74, .int x1, .int x2] [.int 0] (am_S b) (am_u h 73 1 (h 73 1 + 1)) _
    refine wp_if_t rfl (show (0 : Int32) = 0 from by decide) ?_
    refine wp_run 2 (pc' := 28) (ls' := [.ref 74, .int x1, .int x2]) (st' := [.int (-1000000001), .ref 74]) rfl ?_
    refine wp_callV (o := 74) (as := [.int (-1000000001)]) (rest := []) (els := [.ref 74, .int (-1000000001)]) rfl rfl rfl rfl rfl rfl rfl rfl (by omega) ?_
    refine sp_error1 ?_
    show am_wp L xs _ _ _ _ 31 [.ref 74, .int x1, .int x2] [.int (-1000000001)] (am_S b) (am_u (am_u h 73 1 (h 73 1 + 1)) 77 1 ((am_u h 73 1 (h 73 1 + 1)) 77 1 + 1)) _
    refine wp_ret rfl ?_
    exact kk2 _ _ (re_err1 hR)
theorem op_done {L : Nat} {xs : Nat → Int32} {d ms b N : Nat} {h : am_HI} {Q : am_Q} {x1 : Int32} {x2 : Int32} (hd : 30 ≤ d) (hR : am_Rel N h) (hN : N < 100000)
    (kk : ∀ v b1 h1, (∀ ms2 Q2, (∀ b2 h2, am_Rel (N + 1) h2 → Q2 (some (.int v)) (am_S b2) h2) → am_wp L xs d 0 ms2 156 0 [.ref 74, .int x1, .int x2] [] (am_S b1) h1 Q2) → Q (some (.int v)) (am_S b1) h1) :
    am_wp L xs d 0 ms 38 0 [.ref 0, .int x1, .int x2] [] (am_S b) h Q := by
  obtain ⟨⟨n, c, t, tp, wt, s0, s1, p0, p1, H⟩, hI, hE, hS0, hS1, hS2, hS3, hT⟩ := id hR
  have hn := H.1.1
  have hm2 := H.1.2.1
  have hn7 := H.1.2.2
  have hc := H.2.1.1
  have hm3 := H.2.1.2.1
  have hc7 := H.2.1.2.2
  have ht := H.2.2.1.1
  have hm0 := H.2.2.1.2.1
  have ht9 := H.2.2.1.2.2
  have HS := re_hs H
  have HM := re_ms H
  refine wp_run 1 (pc' := 1) (ls' := [.ref 0, .int x1, .int x2]) (st' := [.ref 0]) rfl ?_
  refine wp_getr 1 rfl rfl rfl ?_
  refine wp_run 1 (pc' := 5) (ls' := [.ref 0, .int x1, .int x2]) (st' := [.int x1, .ref 1]) rfl ?_
  refine wp_callV (o := 1) (as := [.int x1]) (rest := []) (els := [.ref 1, .int x1]) rfl rfl rfl rfl rfl rfl rfl rfl (by omega) ?_
  refine sp_hasCoat hc hc7 (by omega) ?_ ?_
  · skip
    intro kx1 hkx1 ex1
    subst ex1
    show am_wp L xs _ _ _ _ 8 [.ref 0, .int (nI kx1), .int x2] [.int 1] (am_S b) h _
    refine wp_if_f rfl (show ¬ ((1 : Int32) = 0) from by decide) ?_
    refine wp_run 1 (pc' := 12) (ls' := [.ref 0, .int (nI kx1), .int x2]) (st' := [.ref 0]) rfl ?_
    refine wp_getr 1 rfl rfl rfl ?_
    refine wp_run 1 (pc' := 16) (ls' := [.ref 0, .int (nI kx1), .int x2]) (st' := [.int x2, .ref 1]) rfl ?_
    refine wp_callV (o := 1) (as := [.int x2]) (rest := []) (els := [.ref 1, .int x2]) rfl rfl rfl rfl rfl rfl rfl rfl (by omega) ?_
    refine sp_hasGuest hn hn7 (by omega) ?_ ?_
    · skip
      intro kx2 hkx2 ex2
      subst ex2
      show am_wp L xs _ _ _ _ 19 [.ref 0, .int (nI kx1), .int (nI kx2)] [.int 1] (am_S b) h _
      refine wp_if_t rfl (show ¬ (1 : Int32) = 0 from by decide) ?_
      refine wp_run 1 (pc' := 29) (ls' := [.ref 0, .int (nI kx1), .int (nI kx2)]) (st' := [.ref 0]) rfl ?_
      refine wp_getr 1 rfl rfl rfl ?_
      refine wp_run 2 (pc' := 34) (ls' := [.ref 0, .int (nI kx1), .int (nI kx2)]) (st' := [.int (nI kx2), .int (nI kx1), .ref 1]) rfl ?_
      refine wp_callV (o := 1) (as := [.int (nI kx1), .int (nI kx2)]) (rest := []) (els := [.ref 1, .int (nI kx1), .int (nI kx2)]) rfl rfl rfl rfl rfl rfl rfl rfl (by omega) ?_
      refine sp_making (h := h) HS (j := kx1) (g := kx2) (by omega) (by omega) (by omega) ?_
      intro gz1
      show am_wp L xs _ _ _ _ 37 [.ref 0, .int (nI kx1), .int (nI kx2)] [.int (hs_mk h s1 p1 kx1 kx2)] (am_S b) (am_ov h [22, 23] gz1) _
      refine wp_ret rfl ?_
      refine kk _ _ _ (fun ms2 Q2 kk2 => ?_)
      refine wp_run 2 (pc' := 2) (ls' := [.ref 74, .int (nI kx1), .int (nI kx2)]) (st' := [.int (nI kx1), .ref 74]) rfl ?_
      refine wp_callV (o := 74) (as := [.int (nI kx1)]) (rest := []) (els := [.ref 74, .int (nI kx1)]) rfl rfl rfl rfl rfl rfl rfl rfl (by omega) ?_
      refine sp_m_isCoat hm3 hc7 (by omega) (fun _ _ _ => ?_) (fun q => absurd rfl (q kx1 (by omega)))
      show am_wp L xs _ _ _ _ 5 [.ref 74, .int (nI kx1), .int (nI kx2)] [.int 1] (am_S b) (am_ov h [22, 23] gz1) _
      refine wp_if_f rfl (show ¬ ((1 : Int32) = 0) from by decide) ?_
      refine wp_run 2 (pc' := 10) (ls' := [.ref 74, .int (nI kx1), .int (nI kx2)]) (st' := [.int (nI kx2), .ref 74]) rfl ?_
      refine wp_callV (o := 74) (as := [.int (nI kx2)]) (rest := []) (els := [.ref 74, .int (nI kx2)]) rfl rfl rfl rfl rfl rfl rfl rfl (by omega) ?_
      refine sp_m_isGuest hm2 hn7 (by omega) (fun _ _ _ => ?_) (fun q => absurd rfl (q kx2 (by omega)))
      show am_wp L xs _ _ _ _ 13 [.ref 74, .int (nI kx1), .int (nI kx2)] [.int 1] (am_S b) (am_ov h [22, 23] gz1) _
      refine wp_if_f rfl (show ¬ ((1 : Int32) = 0) from by decide) ?_
      refine wp_run 3 (pc' := 19) (ls' := [.ref 74, .int (nI kx1), .int (nI kx2)]) (st' := [.int (nI kx2), .int (nI kx1), .ref 74]) rfl ?_
      refine wp_callV (o := 74) (as := [.int (nI kx1), .int (nI kx2)]) (rest := []) (els := [.ref 74, .int (nI kx1), .int (nI kx2)]) rfl rfl rfl rfl rfl rfl rfl rfl (by omega) ?_
      refine sp_doneIn (h := (am_ov h [22, 23] gz1)) HM (j := kx1) (g := kx2) (by omega) (by omega) (by omega) ?_
      intro gz2
      show am_wp L xs _ _ _ _ 22 [.ref 74, .int (nI kx1), .int (nI kx2)] [.int (ms_mk h s1 p1 kx1 kx2)] (am_S b) (am_ov (am_ov h [22, 23] gz1) [83, 84] gz2) _
      refine wp_run 1 (pc' := 31) (ls' := [.ref 74, .int (nI kx1), .int (nI kx2)]) (st' := [.int (ms_mk h s1 p1 kx1 kx2)]) rfl ?_
      refine wp_ret rfl ?_
      rw [show ((ms_mk h s1 p1 kx1 kx2) : Int32) = (hs_mk h s1 p1 kx1 kx2) from re_mk H (by omega) (by omega)]
      exact kk2 _ _ ⟨⟨n, c, t, tp, wt, s0, s1, p0, p1, H⟩, re_im_s hI, hE, hS0, hS1, hS2, hS3, hT⟩
    · skip
      intro hnx2
      show am_wp L xs _ _ _ _ 19 [.ref 0, .int (nI kx1), .int x2] [.int 0] (am_S b) h _
      refine wp_if_f rfl (show ¬ (¬ (0 : Int32) = 0) from by decide) ?_
      refine wp_run 2 (pc' := 24) (ls' := [.ref 0, .int (nI kx1), .int x2]) (st' := [.int 1, .ref 0]) rfl ?_
      refine wp_callV (o := 0) (as := [.int 1]) (rest := []) (els := [.ref 0, .int 1]) rfl rfl rfl rfl rfl rfl rfl rfl (by omega) ?_
      refine sp_refuse1 (by omega) ?_
      show am_wp L xs _ _ _ _ 27 [.ref 0, .int (nI kx1), .int x2] [.int (-1000000001)] (am_S b) (am_u h 73 1 (h 73 1 + 1)) _
      refine wp_ret rfl ?_
      refine kk _ _ _ (fun ms2 Q2 kk2 => ?_)
      refine wp_run 2 (pc' := 2) (ls' := [.ref 74, .int (nI kx1), .int x2]) (st' := [.int (nI kx1), .ref 74]) rfl ?_
      refine wp_callV (o := 74) (as := [.int (nI kx1)]) (rest := []) (els := [.ref 74, .int (nI kx1)]) rfl rfl rfl rfl rfl rfl rfl rfl (by omega) ?_
      refine sp_m_isCoat hm3 hc7 (by omega) (fun _ _ _ => ?_) (fun q => absurd rfl (q kx1 (by omega)))
      show am_wp L xs _ _ _ _ 5 [.ref 74, .int (nI kx1), .int x2] [.int 1] (am_S b) (am_u h 73 1 (h 73 1 + 1)) _
      refine wp_if_f rfl (show ¬ ((1 : Int32) = 0) from by decide) ?_
      refine wp_run 2 (pc' := 10) (ls' := [.ref 74, .int (nI kx1), .int x2]) (st' := [.int x2, .ref 74]) rfl ?_
      refine wp_callV (o := 74) (as := [.int x2]) (rest := []) (els := [.ref 74, .int x2]) rfl rfl rfl rfl rfl rfl rfl rfl (by omega) ?_
      refine sp_m_isGuest hm2 hn7 (by omega) (fun k hk e => absurd e (hnx2 k hk)) (fun _ => ?_)
      show am_wp L xs _ _ _ _ 13 [.ref 74, .int (nI kx1), .int x2] [.int 0] (am_S b) (am_u h 73 1 (h 73 1 + 1)) _
      refine wp_if_t rfl (show (0 : Int32) = 0 from by decide) ?_
      refine wp_run 2 (pc' := 28) (ls' := [.ref 74, .int (nI kx1), .int x2]) (st' := [.int (-1000000001), .ref 74]) rfl ?_
      refine wp_callV (o := 74) (as := [.int (-1000000001)]) (rest := []) (els := [.ref 74, .int (-1000000001)]) rfl rfl rfl rfl rfl rfl rfl rfl (by omega) ?_
      refine sp_error1 ?_
      show am_wp L xs _ _ _ _ 31 [.ref 74, .int (nI kx1), .int x2] [.int (-1000000001)] (am_S b) (am_u (am_u h 73 1 (h 73 1 + 1)) 77 1 ((am_u h 73 1 (h 73 1 + 1)) 77 1 + 1)) _
      refine wp_ret rfl ?_
      exact kk2 _ _ (re_err1 hR)
  · skip
    intro hnx1
    show am_wp L xs _ _ _ _ 8 [.ref 0, .int x1, .int x2] [.int 0] (am_S b) h _
    refine wp_if_t rfl (show (0 : Int32) = 0 from by decide) ?_
    refine wp_run 2 (pc' := 24) (ls' := [.ref 0, .int x1, .int x2]) (st' := [.int 1, .ref 0]) rfl ?_
    refine wp_callV (o := 0) (as := [.int 1]) (rest := []) (els := [.ref 0, .int 1]) rfl rfl rfl rfl rfl rfl rfl rfl (by omega) ?_
    refine sp_refuse1 (by omega) ?_
    show am_wp L xs _ _ _ _ 27 [.ref 0, .int x1, .int x2] [.int (-1000000001)] (am_S b) (am_u h 73 1 (h 73 1 + 1)) _
    refine wp_ret rfl ?_
    refine kk _ _ _ (fun ms2 Q2 kk2 => ?_)
    refine wp_run 2 (pc' := 2) (ls' := [.ref 74, .int x1, .int x2]) (st' := [.int x1, .ref 74]) rfl ?_
    refine wp_callV (o := 74) (as := [.int x1]) (rest := []) (els := [.ref 74, .int x1]) rfl rfl rfl rfl rfl rfl rfl rfl (by omega) ?_
    refine sp_m_isCoat hm3 hc7 (by omega) (fun k hk e => absurd e (hnx1 k hk)) (fun _ => ?_)
    show am_wp L xs _ _ _ _ 5 [.ref 74, .int x1, .int x2] [.int 0] (am_S b) (am_u h 73 1 (h 73 1 + 1)) _
    refine wp_if_t rfl (show (0 : Int32) = 0 from by decide) ?_
    refine wp_run 2 (pc' := 28) (ls' := [.ref 74, .int x1, .int x2]) (st' := [.int (-1000000001), .ref 74]) rfl ?_
    refine wp_callV (o := 74) (as := [.int (-1000000001)]) (rest := []) (els := [.ref 74, .int (-1000000001)]) rfl rfl rfl rfl rfl rfl rfl rfl (by omega) ?_
    refine sp_error1 ?_
    show am_wp L xs _ _ _ _ 31 [.ref 74, .int x1, .int x2] [.int (-1000000001)] (am_S b) (am_u (am_u h 73 1 (h 73 1 + 1)) 77 1 ((am_u h 73 1 (h 73 1 + 1)) 77 1 + 1)) _
    refine wp_ret rfl ?_
    exact kk2 _ _ (re_err1 hR)
theorem op_guestIs {L : Nat} {xs : Nat → Int32} {d ms b N : Nat} {h : am_HI} {Q : am_Q} {x1 : Int32} {x2 : Int32} (hd : 30 ≤ d) (hR : am_Rel N h) (hN : N < 100000)
    (kk : ∀ v b1 h1, (∀ ms2 Q2, (∀ b2 h2, am_Rel (N + 1) h2 → Q2 (some (.int v)) (am_S b2) h2) → am_wp L xs d 0 ms2 134 0 [.ref 74, .int x1, .int x2] [] (am_S b1) h1 Q2) → Q (some (.int v)) (am_S b1) h1) :
    am_wp L xs d 0 ms 14 0 [.ref 0, .int x1, .int x2] [] (am_S b) h Q := by
  obtain ⟨⟨n, c, t, tp, wt, s0, s1, p0, p1, H⟩, hI, hE, hS0, hS1, hS2, hS3, hT⟩ := id hR
  have hn := H.1.1
  have hm2 := H.1.2.1
  have hn7 := H.1.2.2
  have hc := H.2.1.1
  have hm3 := H.2.1.2.1
  have hc7 := H.2.1.2.2
  have ht := H.2.2.1.1
  have hm0 := H.2.2.1.2.1
  have ht9 := H.2.2.1.2.2
  have HS := re_hs H
  have HM := re_ms H
  refine wp_run 1 (pc' := 1) (ls' := [.ref 0, .int x1, .int x2]) (st' := [.ref 0]) rfl ?_
  refine wp_getr 1 rfl rfl rfl ?_
  refine wp_run 1 (pc' := 5) (ls' := [.ref 0, .int x1, .int x2]) (st' := [.int x1, .ref 1]) rfl ?_
  refine wp_callV (o := 1) (as := [.int x1]) (rest := []) (els := [.ref 1, .int x1]) rfl rfl rfl rfl rfl rfl rfl rfl (by omega) ?_
  refine sp_hasGuest hn hn7 (by omega) ?_ ?_
  · skip
    intro kx1 hkx1 ex1
    subst ex1
    show am_wp L xs _ _ _ _ 8 [.ref 0, .int (nI kx1), .int x2] [.int 1] (am_S b) h _
    refine wp_if_t rfl (show ¬ (1 : Int32) = 0 from by decide) ?_
    refine wp_run 1 (pc' := 18) (ls' := [.ref 0, .int (nI kx1), .int x2]) (st' := [.int x2]) rfl ?_
    refine wp_switch [(0, 52), (1, 62), (2, 72), (3, 82), (4, 92)] rfl rfl rfl ?_ ?_
    · refine List.forall_mem_cons.mpr ⟨fun (sw18 : x2 = _) => ?_, List.forall_mem_cons.mpr ⟨fun (sw18 : x2 = _) => ?_, List.forall_mem_cons.mpr ⟨fun (sw18 : x2 = _) => ?_, List.forall_mem_cons.mpr ⟨fun (sw18 : x2 = _) => ?_, List.forall_mem_cons.mpr ⟨fun (sw18 : x2 = _) => ?_, fun _ h => absurd h List.not_mem_nil⟩⟩⟩⟩⟩
      · skip
        have esw : x2 = 0 := sw18
        subst esw
        refine wp_run 1 (pc' := 53) (ls' := [.ref 0, .int (nI kx1), .int 0]) (st' := [.ref 0]) rfl ?_
        refine wp_getr 1 rfl rfl rfl ?_
        refine wp_getr 2 rfl rfl rfl ?_
        refine wp_run 1 (pc' := 60) (ls' := [.ref 0, .int (nI kx1), .int 0]) (st' := [.int (nI kx1), .ref 2]) rfl ?_
        refine wp_ald (i := kx1) (h 2 kx1) rfl rfl rfl rfl (by omega) rfl ?_
        refine wp_ret rfl ?_
        refine kk _ _ _ (fun ms2 Q2 kk2 => ?_)
        refine wp_run 2 (pc' := 2) (ls' := [.ref 74, .int (nI kx1), .int 0]) (st' := [.int (nI kx1), .ref 74]) rfl ?_
        refine wp_callV (o := 74) (as := [.int (nI kx1)]) (rest := []) (els := [.ref 74, .int (nI kx1)]) rfl rfl rfl rfl rfl rfl rfl rfl (by omega) ?_
        refine sp_m_isGuest hm2 hn7 (by omega) (fun _ _ _ => ?_) (fun q => absurd rfl (q kx1 (by omega)))
        show am_wp L xs _ _ _ _ 5 [.ref 74, .int (nI kx1), .int 0] [.int 1] (am_S b) h _
        refine wp_if_f rfl (show ¬ ((1 : Int32) = 0) from by decide) ?_
        refine wp_run 3 (pc' := 11) (ls' := [.ref 74, .int (nI kx1), .int 0]) (st' := [.int 4, .int 0, .int 0]) rfl ?_
        refine wp_callS (as := [.int 0, .int 0, .int 4]) (rest := []) (els := [.int 0, .int 0, .int 4]) rfl rfl rfl rfl rfl rfl rfl rfl (by omega) ?_
        refine sp_m_in0 (m := 4) rfl rfl (fun _ _ _ => ?_) (fun q => absurd rfl (q 0 (by omega)))
        show am_wp L xs _ _ _ _ 14 [.ref 74, .int (nI kx1), .int 0] [.int 1] (am_S b) h _
        refine wp_if_t rfl (show ¬ (1 : Int32) = 0 from by decide) ?_
        refine wp_run 2 (pc' := 26) (ls' := [.ref 74, .int (nI kx1), .int 0]) (st' := [.int 4, .int 0]) rfl ?_
        refine wp_icmp_f rfl (show ¬ (4 ≤ (0 : Int32)) from by decide) ?_
        refine wp_run 3 (pc' := 32) (ls' := [.ref 74, .int (nI kx1), .int 0]) (st' := [.int 0, .int (nI kx1), .ref 74]) rfl ?_
        refine wp_callV (o := 74) (as := [.int (nI kx1), .int 0]) (rest := []) (els := [.ref 74, .int (nI kx1), .int 0]) rfl rfl rfl rfl rfl rfl rfl rfl (by omega) ?_
        refine sp_about (w := 0) (h 75 (7 + 4 * kx1)) rfl (by omega) (by omega) ?_
        show am_wp L xs _ _ _ _ 35 [.ref 74, .int (nI kx1), .int 0] [.int (h 75 (7 + 4 * kx1))] (am_S b) h _
        refine wp_run 1 (pc' := 43) (ls' := [.ref 74, .int (nI kx1), .int 0]) (st' := [.int (h 75 (7 + 4 * kx1))]) rfl ?_
        refine wp_ret rfl ?_
        rw [show ((h 75 (7 + 4 * kx1)) : Int32) = (h 2 kx1) from (H.2.2.2.2.1 kx1 (by omega)).1.symm]
        exact kk2 _ _ ⟨⟨n, c, t, tp, wt, s0, s1, p0, p1, H⟩, re_im_s hI, hE, hS0, hS1, hS2, hS3, hT⟩
      · skip
        have esw : x2 = 1 := sw18
        subst esw
        refine wp_run 1 (pc' := 63) (ls' := [.ref 0, .int (nI kx1), .int 1]) (st' := [.ref 0]) rfl ?_
        refine wp_getr 1 rfl rfl rfl ?_
        refine wp_getr 3 rfl rfl rfl ?_
        refine wp_run 1 (pc' := 70) (ls' := [.ref 0, .int (nI kx1), .int 1]) (st' := [.int (nI kx1), .ref 3]) rfl ?_
        refine wp_ald (i := kx1) (h 3 kx1) rfl rfl rfl rfl (by omega) rfl ?_
        refine wp_ret rfl ?_
        refine kk _ _ _ (fun ms2 Q2 kk2 => ?_)
        refine wp_run 2 (pc' := 2) (ls' := [.ref 74, .int (nI kx1), .int 1]) (st' := [.int (nI kx1), .ref 74]) rfl ?_
        refine wp_callV (o := 74) (as := [.int (nI kx1)]) (rest := []) (els := [.ref 74, .int (nI kx1)]) rfl rfl rfl rfl rfl rfl rfl rfl (by omega) ?_
        refine sp_m_isGuest hm2 hn7 (by omega) (fun _ _ _ => ?_) (fun q => absurd rfl (q kx1 (by omega)))
        show am_wp L xs _ _ _ _ 5 [.ref 74, .int (nI kx1), .int 1] [.int 1] (am_S b) h _
        refine wp_if_f rfl (show ¬ ((1 : Int32) = 0) from by decide) ?_
        refine wp_run 3 (pc' := 11) (ls' := [.ref 74, .int (nI kx1), .int 1]) (st' := [.int 4, .int 0, .int 1]) rfl ?_
        refine wp_callS (as := [.int 1, .int 0, .int 4]) (rest := []) (els := [.int 1, .int 0, .int 4]) rfl rfl rfl rfl rfl rfl rfl rfl (by omega) ?_
        refine sp_m_in0 (m := 4) rfl rfl (fun _ _ _ => ?_) (fun q => absurd rfl (q 1 (by omega)))
        show am_wp L xs _ _ _ _ 14 [.ref 74, .int (nI kx1), .int 1] [.int 1] (am_S b) h _
        refine wp_if_t rfl (show ¬ (1 : Int32) = 0 from by decide) ?_
        refine wp_run 2 (pc' := 26) (ls' := [.ref 74, .int (nI kx1), .int 1]) (st' := [.int 4, .int 1]) rfl ?_
        refine wp_icmp_f rfl (show ¬ (4 ≤ (1 : Int32)) from by decide) ?_
        refine wp_run 3 (pc' := 32) (ls' := [.ref 74, .int (nI kx1), .int 1]) (st' := [.int 1, .int (nI kx1), .ref 74]) rfl ?_
        refine wp_callV (o := 74) (as := [.int (nI kx1), .int 1]) (rest := []) (els := [.ref 74, .int (nI kx1), .int 1]) rfl rfl rfl rfl rfl rfl rfl rfl (by omega) ?_
        refine sp_about (w := 1) (h 75 (7 + 4 * kx1 + 1)) rfl (by omega) (by omega) ?_
        show am_wp L xs _ _ _ _ 35 [.ref 74, .int (nI kx1), .int 1] [.int (h 75 (7 + 4 * kx1 + 1))] (am_S b) h _
        refine wp_run 1 (pc' := 43) (ls' := [.ref 74, .int (nI kx1), .int 1]) (st' := [.int (h 75 (7 + 4 * kx1 + 1))]) rfl ?_
        refine wp_ret rfl ?_
        rw [show ((h 75 (7 + 4 * kx1 + 1)) : Int32) = (h 3 kx1) from (H.2.2.2.2.1 kx1 (by omega)).2.1.symm]
        exact kk2 _ _ ⟨⟨n, c, t, tp, wt, s0, s1, p0, p1, H⟩, re_im_s hI, hE, hS0, hS1, hS2, hS3, hT⟩
      · skip
        have esw : x2 = 2 := sw18
        subst esw
        refine wp_run 1 (pc' := 73) (ls' := [.ref 0, .int (nI kx1), .int 2]) (st' := [.ref 0]) rfl ?_
        refine wp_getr 1 rfl rfl rfl ?_
        refine wp_getr 4 rfl rfl rfl ?_
        refine wp_run 1 (pc' := 80) (ls' := [.ref 0, .int (nI kx1), .int 2]) (st' := [.int (nI kx1), .ref 4]) rfl ?_
        refine wp_ald (i := kx1) (h 4 kx1) rfl rfl rfl rfl (by omega) rfl ?_
        refine wp_ret rfl ?_
        refine kk _ _ _ (fun ms2 Q2 kk2 => ?_)
        refine wp_run 2 (pc' := 2) (ls' := [.ref 74, .int (nI kx1), .int 2]) (st' := [.int (nI kx1), .ref 74]) rfl ?_
        refine wp_callV (o := 74) (as := [.int (nI kx1)]) (rest := []) (els := [.ref 74, .int (nI kx1)]) rfl rfl rfl rfl rfl rfl rfl rfl (by omega) ?_
        refine sp_m_isGuest hm2 hn7 (by omega) (fun _ _ _ => ?_) (fun q => absurd rfl (q kx1 (by omega)))
        show am_wp L xs _ _ _ _ 5 [.ref 74, .int (nI kx1), .int 2] [.int 1] (am_S b) h _
        refine wp_if_f rfl (show ¬ ((1 : Int32) = 0) from by decide) ?_
        refine wp_run 3 (pc' := 11) (ls' := [.ref 74, .int (nI kx1), .int 2]) (st' := [.int 4, .int 0, .int 2]) rfl ?_
        refine wp_callS (as := [.int 2, .int 0, .int 4]) (rest := []) (els := [.int 2, .int 0, .int 4]) rfl rfl rfl rfl rfl rfl rfl rfl (by omega) ?_
        refine sp_m_in0 (m := 4) rfl rfl (fun _ _ _ => ?_) (fun q => absurd rfl (q 2 (by omega)))
        show am_wp L xs _ _ _ _ 14 [.ref 74, .int (nI kx1), .int 2] [.int 1] (am_S b) h _
        refine wp_if_t rfl (show ¬ (1 : Int32) = 0 from by decide) ?_
        refine wp_run 2 (pc' := 26) (ls' := [.ref 74, .int (nI kx1), .int 2]) (st' := [.int 4, .int 2]) rfl ?_
        refine wp_icmp_f rfl (show ¬ (4 ≤ (2 : Int32)) from by decide) ?_
        refine wp_run 3 (pc' := 32) (ls' := [.ref 74, .int (nI kx1), .int 2]) (st' := [.int 2, .int (nI kx1), .ref 74]) rfl ?_
        refine wp_callV (o := 74) (as := [.int (nI kx1), .int 2]) (rest := []) (els := [.ref 74, .int (nI kx1), .int 2]) rfl rfl rfl rfl rfl rfl rfl rfl (by omega) ?_
        refine sp_about (w := 2) (h 75 (7 + 4 * kx1 + 2)) rfl (by omega) (by omega) ?_
        show am_wp L xs _ _ _ _ 35 [.ref 74, .int (nI kx1), .int 2] [.int (h 75 (7 + 4 * kx1 + 2))] (am_S b) h _
        refine wp_run 1 (pc' := 43) (ls' := [.ref 74, .int (nI kx1), .int 2]) (st' := [.int (h 75 (7 + 4 * kx1 + 2))]) rfl ?_
        refine wp_ret rfl ?_
        rw [show ((h 75 (7 + 4 * kx1 + 2)) : Int32) = (h 4 kx1) from (H.2.2.2.2.1 kx1 (by omega)).2.2.1.symm]
        exact kk2 _ _ ⟨⟨n, c, t, tp, wt, s0, s1, p0, p1, H⟩, re_im_s hI, hE, hS0, hS1, hS2, hS3, hT⟩
      · skip
        have esw : x2 = 3 := sw18
        subst esw
        refine wp_run 1 (pc' := 83) (ls' := [.ref 0, .int (nI kx1), .int 3]) (st' := [.ref 0]) rfl ?_
        refine wp_getr 1 rfl rfl rfl ?_
        refine wp_getr 5 rfl rfl rfl ?_
        refine wp_run 1 (pc' := 90) (ls' := [.ref 0, .int (nI kx1), .int 3]) (st' := [.int (nI kx1), .ref 5]) rfl ?_
        refine wp_ald (i := kx1) (h 5 kx1) rfl rfl rfl rfl (by omega) rfl ?_
        refine wp_ret rfl ?_
        refine kk _ _ _ (fun ms2 Q2 kk2 => ?_)
        refine wp_run 2 (pc' := 2) (ls' := [.ref 74, .int (nI kx1), .int 3]) (st' := [.int (nI kx1), .ref 74]) rfl ?_
        refine wp_callV (o := 74) (as := [.int (nI kx1)]) (rest := []) (els := [.ref 74, .int (nI kx1)]) rfl rfl rfl rfl rfl rfl rfl rfl (by omega) ?_
        refine sp_m_isGuest hm2 hn7 (by omega) (fun _ _ _ => ?_) (fun q => absurd rfl (q kx1 (by omega)))
        show am_wp L xs _ _ _ _ 5 [.ref 74, .int (nI kx1), .int 3] [.int 1] (am_S b) h _
        refine wp_if_f rfl (show ¬ ((1 : Int32) = 0) from by decide) ?_
        refine wp_run 3 (pc' := 11) (ls' := [.ref 74, .int (nI kx1), .int 3]) (st' := [.int 4, .int 0, .int 3]) rfl ?_
        refine wp_callS (as := [.int 3, .int 0, .int 4]) (rest := []) (els := [.int 3, .int 0, .int 4]) rfl rfl rfl rfl rfl rfl rfl rfl (by omega) ?_
        refine sp_m_in0 (m := 4) rfl rfl (fun _ _ _ => ?_) (fun q => absurd rfl (q 3 (by omega)))
        show am_wp L xs _ _ _ _ 14 [.ref 74, .int (nI kx1), .int 3] [.int 1] (am_S b) h _
        refine wp_if_t rfl (show ¬ (1 : Int32) = 0 from by decide) ?_
        refine wp_run 2 (pc' := 26) (ls' := [.ref 74, .int (nI kx1), .int 3]) (st' := [.int 4, .int 3]) rfl ?_
        refine wp_icmp_f rfl (show ¬ (4 ≤ (3 : Int32)) from by decide) ?_
        refine wp_run 3 (pc' := 32) (ls' := [.ref 74, .int (nI kx1), .int 3]) (st' := [.int 3, .int (nI kx1), .ref 74]) rfl ?_
        refine wp_callV (o := 74) (as := [.int (nI kx1), .int 3]) (rest := []) (els := [.ref 74, .int (nI kx1), .int 3]) rfl rfl rfl rfl rfl rfl rfl rfl (by omega) ?_
        refine sp_about (w := 3) (h 75 (7 + 4 * kx1 + 3)) rfl (by omega) (by omega) ?_
        show am_wp L xs _ _ _ _ 35 [.ref 74, .int (nI kx1), .int 3] [.int (h 75 (7 + 4 * kx1 + 3))] (am_S b) h _
        refine wp_run 1 (pc' := 43) (ls' := [.ref 74, .int (nI kx1), .int 3]) (st' := [.int (h 75 (7 + 4 * kx1 + 3))]) rfl ?_
        refine wp_ret rfl ?_
        rw [show ((h 75 (7 + 4 * kx1 + 3)) : Int32) = (h 5 kx1) from (H.2.2.2.2.1 kx1 (by omega)).2.2.2.symm]
        exact kk2 _ _ ⟨⟨n, c, t, tp, wt, s0, s1, p0, p1, H⟩, re_im_s hI, hE, hS0, hS1, hS2, hS3, hT⟩
      · skip
        have esw : x2 = 4 := sw18
        subst esw
        refine wp_run 1 (pc' := 93) (ls' := [.ref 0, .int (nI kx1), .int 4]) (st' := [.ref 0]) rfl ?_
        refine wp_getr 1 rfl rfl rfl ?_
        refine wp_run 1 (pc' := 97) (ls' := [.ref 0, .int (nI kx1), .int 4]) (st' := [.int (nI kx1), .ref 1]) rfl ?_
        refine wp_callV (o := 1) (as := [.int (nI kx1)]) (rest := []) (els := [.ref 1, .int (nI kx1)]) rfl rfl rfl rfl rfl rfl rfl rfl (by omega) ?_
        refine sp_makingNow (h := h) HS (g := kx1) (by omega) (by omega) ?_
        intro gz1
        show am_wp L xs _ _ _ _ 100 [.ref 0, .int (nI kx1), .int 4] [.int (hs_mkn h s1 p1 kx1)] (am_S b) (am_ov h [22, 23] gz1) _
        refine wp_ret rfl ?_
        refine kk _ _ _ (fun ms2 Q2 kk2 => ?_)
        refine wp_run 2 (pc' := 2) (ls' := [.ref 74, .int (nI kx1), .int 4]) (st' := [.int (nI kx1), .ref 74]) rfl ?_
        refine wp_callV (o := 74) (as := [.int (nI kx1)]) (rest := []) (els := [.ref 74, .int (nI kx1)]) rfl rfl rfl rfl rfl rfl rfl rfl (by omega) ?_
        refine sp_m_isGuest hm2 hn7 (by omega) (fun _ _ _ => ?_) (fun q => absurd rfl (q kx1 (by omega)))
        show am_wp L xs _ _ _ _ 5 [.ref 74, .int (nI kx1), .int 4] [.int 1] (am_S b) (am_ov h [22, 23] gz1) _
        refine wp_if_f rfl (show ¬ ((1 : Int32) = 0) from by decide) ?_
        refine wp_run 3 (pc' := 11) (ls' := [.ref 74, .int (nI kx1), .int 4]) (st' := [.int 4, .int 0, .int 4]) rfl ?_
        refine wp_callS (as := [.int 4, .int 0, .int 4]) (rest := []) (els := [.int 4, .int 0, .int 4]) rfl rfl rfl rfl rfl rfl rfl rfl (by omega) ?_
        refine sp_m_in0 (m := 4) rfl rfl (fun _ _ _ => ?_) (fun q => absurd rfl (q 4 (by omega)))
        show am_wp L xs _ _ _ _ 14 [.ref 74, .int (nI kx1), .int 4] [.int 1] (am_S b) (am_ov h [22, 23] gz1) _
        refine wp_if_t rfl (show ¬ (1 : Int32) = 0 from by decide) ?_
        refine wp_run 2 (pc' := 26) (ls' := [.ref 74, .int (nI kx1), .int 4]) (st' := [.int 4, .int 4]) rfl ?_
        refine wp_icmp_t rfl (show 4 ≤ (4 : Int32) from by decide) ?_
        refine wp_run 2 (pc' := 40) (ls' := [.ref 74, .int (nI kx1), .int 4]) (st' := [.int (nI kx1), .ref 74]) rfl ?_
        refine wp_callV (o := 74) (as := [.int (nI kx1)]) (rest := []) (els := [.ref 74, .int (nI kx1), am_du]) rfl rfl rfl rfl rfl rfl rfl rfl (by omega) ?_
        refine sp_doneNow (h := (am_ov h [22, 23] gz1)) HM (g := kx1) (by omega) (by omega) ?_
        intro gz2
        show am_wp L xs _ _ _ _ 43 [.ref 74, .int (nI kx1), .int 4] [.int (ms_mkn h s1 p1 kx1)] (am_S b) (am_ov (am_ov h [22, 23] gz1) [83, 84] gz2) _
        refine wp_ret rfl ?_
        rw [show ((ms_mkn h s1 p1 kx1) : Int32) = (hs_mkn h s1 p1 kx1) from re_mkn H (by omega)]
        exact kk2 _ _ ⟨⟨n, c, t, tp, wt, s0, s1, p0, p1, H⟩, re_im_s hI, hE, hS0, hS1, hS2, hS3, hT⟩
    · intro sw18
      simp only [List.forall_mem_cons] at sw18
      have hsw : ∀ k, k ≤ 4 → x2 ≠ nI k := fun k hk e => by
        have hk2 : k = 0 ∨ k = 1 ∨ k = 2 ∨ k = 3 ∨ k = 4 := by omega
        rcases hk2 with e2 | e2 | e2 | e2 | e2
        · subst e2; exact sw18.1 e
        · subst e2; exact sw18.2.1 e
        · subst e2; exact sw18.2.2.1 e
        · subst e2; exact sw18.2.2.2.1 e
        · subst e2; exact sw18.2.2.2.2.1 e
      refine wp_run 2 (pc' := 103) (ls' := [.ref 0, .int (nI kx1), .int x2]) (st' := [.int 1, .ref 0]) rfl ?_
      refine wp_callV (o := 0) (as := [.int 1]) (rest := []) (els := [.ref 0, .int 1]) rfl rfl rfl rfl rfl rfl rfl rfl (by omega) ?_
      refine sp_refuse1 (by omega) ?_
      show am_wp L xs _ _ _ _ 106 [.ref 0, .int (nI kx1), .int x2] [.int (-1000000001)] (am_S b) (am_u h 73 1 (h 73 1 + 1)) _
      refine wp_ret rfl ?_
      refine kk _ _ _ (fun ms2 Q2 kk2 => ?_)
      refine wp_run 2 (pc' := 2) (ls' := [.ref 74, .int (nI kx1), .int x2]) (st' := [.int (nI kx1), .ref 74]) rfl ?_
      refine wp_callV (o := 74) (as := [.int (nI kx1)]) (rest := []) (els := [.ref 74, .int (nI kx1)]) rfl rfl rfl rfl rfl rfl rfl rfl (by omega) ?_
      refine sp_m_isGuest hm2 hn7 (by omega) (fun _ _ _ => ?_) (fun q => absurd rfl (q kx1 (by omega)))
      show am_wp L xs _ _ _ _ 5 [.ref 74, .int (nI kx1), .int x2] [.int 1] (am_S b) (am_u h 73 1 (h 73 1 + 1)) _
      refine wp_if_f rfl (show ¬ ((1 : Int32) = 0) from by decide) ?_
      refine wp_run 3 (pc' := 11) (ls' := [.ref 74, .int (nI kx1), .int x2]) (st' := [.int 4, .int 0, .int x2]) rfl ?_
      refine wp_callS (as := [.int x2, .int 0, .int 4]) (rest := []) (els := [.int x2, .int 0, .int 4]) rfl rfl rfl rfl rfl rfl rfl rfl (by omega) ?_
      refine sp_m_in0 (m := 4) rfl rfl (fun k hk e => absurd e (hsw k hk)) (fun _ => ?_)
      show am_wp L xs _ _ _ _ 14 [.ref 74, .int (nI kx1), .int x2] [.int 0] (am_S b) (am_u h 73 1 (h 73 1 + 1)) _
      refine wp_if_f rfl (show ¬ (¬ (0 : Int32) = 0) from by decide) ?_
      refine wp_run 2 (pc' := 20) (ls' := [.ref 74, .int (nI kx1), .int x2]) (st' := [.int (-1000000001), .ref 74]) rfl ?_
      refine wp_callV (o := 74) (as := [.int (-1000000001)]) (rest := []) (els := [.ref 74, .int (-1000000001)]) rfl rfl rfl rfl rfl rfl rfl rfl (by omega) ?_
      refine sp_error1 ?_
      show am_wp L xs _ _ _ _ 23 [.ref 74, .int (nI kx1), .int x2] [.int (-1000000001)] (am_S b) (am_u (am_u h 73 1 (h 73 1 + 1)) 77 1 ((am_u h 73 1 (h 73 1 + 1)) 77 1 + 1)) _
      refine wp_ret rfl ?_
      exact kk2 _ _ (re_err1 hR)
  · skip
    intro hnx1
    show am_wp L xs _ _ _ _ 8 [.ref 0, .int x1, .int x2] [.int 0] (am_S b) h _
    refine wp_if_f rfl (show ¬ (¬ (0 : Int32) = 0) from by decide) ?_
    refine wp_run 2 (pc' := 13) (ls' := [.ref 0, .int x1, .int x2]) (st' := [.int 1, .ref 0]) rfl ?_
    refine wp_callV (o := 0) (as := [.int 1]) (rest := []) (els := [.ref 0, .int 1]) rfl rfl rfl rfl rfl rfl rfl rfl (by omega) ?_
    refine sp_refuse1 (by omega) ?_
    show am_wp L xs _ _ _ _ 16 [.ref 0, .int x1, .int x2] [.int (-1000000001)] (am_S b) (am_u h 73 1 (h 73 1 + 1)) _
    refine wp_ret rfl ?_
    refine kk _ _ _ (fun ms2 Q2 kk2 => ?_)
    refine wp_run 2 (pc' := 2) (ls' := [.ref 74, .int x1, .int x2]) (st' := [.int x1, .ref 74]) rfl ?_
    refine wp_callV (o := 74) (as := [.int x1]) (rest := []) (els := [.ref 74, .int x1]) rfl rfl rfl rfl rfl rfl rfl rfl (by omega) ?_
    refine sp_m_isGuest hm2 hn7 (by omega) (fun k hk e => absurd e (hnx1 k hk)) (fun _ => ?_)
    show am_wp L xs _ _ _ _ 5 [.ref 74, .int x1, .int x2] [.int 0] (am_S b) (am_u h 73 1 (h 73 1 + 1)) _
    refine wp_if_t rfl (show (0 : Int32) = 0 from by decide) ?_
    refine wp_run 2 (pc' := 20) (ls' := [.ref 74, .int x1, .int x2]) (st' := [.int (-1000000001), .ref 74]) rfl ?_
    refine wp_callV (o := 74) (as := [.int (-1000000001)]) (rest := []) (els := [.ref 74, .int (-1000000001)]) rfl rfl rfl rfl rfl rfl rfl rfl (by omega) ?_
    refine sp_error1 ?_
    show am_wp L xs _ _ _ _ 23 [.ref 74, .int x1, .int x2] [.int (-1000000001)] (am_S b) (am_u (am_u h 73 1 (h 73 1 + 1)) 77 1 ((am_u h 73 1 (h 73 1 + 1)) 77 1 + 1)) _
    refine wp_ret rfl ?_
    exact kk2 _ _ (re_err1 hR)
