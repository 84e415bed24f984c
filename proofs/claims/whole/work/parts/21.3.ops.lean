/-! calls tied: image, restore -/
theorem op_image {L : Nat} {xs : Nat → Int32} {d ms b N : Nat} {h : am_HI} {Q : am_Q}  (hd : 30 ≤ d) (hR : am_Rel N h) (hN : N < 100000)
    (kk : ∀ v b1 h1, (∀ ms2 Q2, (∀ b2 h2, am_Rel (N + 1) h2 → Q2 (some (.int v)) (am_S b2) h2) → am_wp L xs d 0 ms2 217 0 [.ref 74] [] (am_S b1) h1 Q2) → Q (some (.int v)) (am_S b1) h1) :
    am_wp L xs d 0 ms 120 0 [.ref 0] [] (am_S b) h Q := by
  obtain ⟨⟨n, c, t, tp, wt, s0, s1, p0, p1, H⟩, hI, hE, hS0, hS1, hS2, hS3, hT⟩ := id hR
  have hn := H.1.1
  have hm2 := H.1.2.1
  have hn7 := H.1.2.2
  have hc := H.2.1.1
  have hm3 := H.2.1.2.1
  have hc7 := H.2.1.2.2
  have ht := H.2.2.1.1
  have hm0 := H.2.2.1.2.1
  have ht9 := H.2.2.1.2.2
  have HS := re_hs H
  have HM := re_ms H
  obtain ⟨im, him, hi1, hi2, hi3⟩ := id hI.1
  refine wp_run 1 (pc' := 1) (ls' := [.ref 0]) (st' := [.ref 0]) rfl ?_
  refine wp_getr 24 rfl rfl rfl ?_
  refine wp_run 1 (pc' := 5) (ls' := [.ref 0]) (st' := [.ref 0, .ref 24]) rfl ?_
  refine wp_getr 1 rfl rfl rfl ?_
  refine wp_callV (o := 24) (as := [.ref 1]) (rest := []) (els := [.ref 24, .ref 1, am_du]) rfl rfl rfl rfl rfl rfl rfl rfl (by omega) ?_
  refine sp_hcopy24 (h := h) H hI.2.1 hI.2.2.1 hI.2.2.2.1 hI.2.2.2.2 (by omega) (fun gk hgk => ?_)
  show am_wp L xs _ _ _ _ 11 [.ref 0] [] (am_S b) (am_ov h [24, 25, 26, 27, 28, 29, 30, 31, 32, 33, 34, 35, 37, 38, 39, 42, 43, 44] gk) _
  refine wp_run 2 (pc' := 13) (ls' := [.ref 0]) (st' := [.ref 0, .ref 0]) rfl ?_
  refine wp_geti (a := 8) (nI im) hi1 rfl rfl rfl ?_
  refine wp_run 2 (pc' := 18) (ls' := [.ref 0]) (st' := [.int ((nI im) + 1), .ref 0]) rfl ?_
  rw [show (((nI im) + 1) : Int32) = (nI (im + 1)) from nI_add im 1]
  refine wp_puti rfl rfl ?_
  refine wp_run 1 (pc' := 22) (ls' := [.ref 0]) (st' := [.ref 0]) rfl ?_
  refine wp_geti (a := 8) (nI (im + 1)) (am_u_at _ _ _ _) rfl rfl rfl ?_
  refine wp_ret rfl ?_
  refine kk _ _ _ (fun ms2 Q2 kk2 => ?_)
  refine wp_run 1 (pc' := 1) (ls' := [.ref 74]) (st' := [.ref 74]) rfl ?_
  refine wp_getr 75 rfl rfl rfl ?_
  refine wp_run 1 (pc' := 5) (ls' := [.ref 74]) (st' := [.ref 74, .ref 75]) rfl ?_
  refine wp_getr 76 rfl rfl rfl ?_
  refine wp_callS (as := [.ref 75, .ref 76]) (rest := []) (els := [.ref 75, .ref 76, am_du]) rfl rfl rfl rfl rfl rfl rfl rfl (by omega) ?_
  refine sp_copyAll (h := (am_u (am_ov h [24, 25, 26, 27, 28, 29, 30, 31, 32, 33, 34, 35, 37, 38, 39, 42, 43, 44] gk) 0 8 (nI (im + 1)))) (q := 75) (o := 76) rfl rfl (by omega) ?_
  show am_wp L xs _ _ _ _ 11 [.ref 74] [] (am_S b) (am_ur (am_u (am_ov h [24, 25, 26, 27, 28, 29, 30, 31, 32, 33, 34, 35, 37, 38, 39, 42, 43, 44] gk) 0 8 (nI (im + 1))) 76 (cp_f ((am_u (am_ov h [24, 25, 26, 27, 28, 29, 30, 31, 32, 33, 34, 35, 37, 38, 39, 42, 43, 44] gk) 0 8 (nI (im + 1))) 75) ((am_u (am_ov h [24, 25, 26, 27, 28, 29, 30, 31, 32, 33, 34, 35, 37, 38, 39, 42, 43, 44] gk) 0 8 (nI (im + 1))) 76) 382)) _
  refine wp_run 2 (pc' := 13) (ls' := [.ref 74]) (st' := [.ref 74, .ref 74]) rfl ?_
  refine wp_geti (a := 2) (nI im) hi2 rfl rfl rfl ?_
  refine wp_run 2 (pc' := 18) (ls' := [.ref 74]) (st' := [.int ((nI im) + 1), .ref 74]) rfl ?_
  rw [show (((nI im) + 1) : Int32) = (nI (im + 1)) from nI_add im 1]
  refine wp_puti rfl rfl ?_
  refine wp_run 1 (pc' := 22) (ls' := [.ref 74]) (st' := [.ref 74]) rfl ?_
  refine wp_geti (a := 2) (nI (im + 1)) (am_u_at _ _ _ _) rfl rfl rfl ?_
  refine wp_ret rfl ?_
  exact kk2 _ _ ⟨⟨n, c, t, tp, wt, s0, s1, p0, p1, H⟩, ⟨⟨im + 1, by omega, rfl, rfl, fun _ => ⟨n, c, t, tp, wt, s0, s1, p0, p1, re_row hgk (fun i hi => if_pos hi)⟩⟩, hgk.2.2.2.2.2.2.2.2.2.2.1.1.2.2.2.1, hgk.2.2.2.2.2.2.2.2.2.2.1.1.2.2.2.2.1, hgk.2.2.2.2.2.2.2.2.2.2.2.1.2.2.2.1, hgk.2.2.2.2.2.2.2.2.2.2.2.1.2.2.2.2.1⟩, hE, hS0, hS1, hS2, hS3, hT⟩
theorem op_restore {L : Nat} {xs : Nat → Int32} {d ms b N : Nat} {h : am_HI} {Q : am_Q}  (hd : 30 ≤ d) (hR : am_Rel N h) (hN : N < 100000)
    (kk : ∀ v b1 h1, (∀ ms2 Q2, (∀ b2 h2, am_Rel (N + 1) h2 → Q2 (some (.int v)) (am_S b2) h2) → am_wp L xs d 0 ms2 219 0 [.ref 74] [] (am_S b1) h1 Q2) → Q (some (.int v)) (am_S b1) h1) :
    am_wp L xs d 0 ms 124 0 [.ref 0] [] (am_S b) h Q := by
  obtain ⟨⟨n, c, t, tp, wt, s0, s1, p0, p1, H⟩, hI, hE, hS0, hS1, hS2, hS3, hT⟩ := id hR
  have hn := H.1.1
  have hm2 := H.1.2.1
  have hn7 := H.1.2.2
  have hc := H.2.1.1
  have hm3 := H.2.1.2.1
  have hc7 := H.2.1.2.2
  have ht := H.2.2.1.1
  have hm0 := H.2.2.1.2.1
  have ht9 := H.2.2.1.2.2
  have HS := re_hs H
  have HM := re_ms H
  obtain ⟨im, him, hi1, hi2, hi3⟩ := id hI.1
  refine wp_run 1 (pc' := 1) (ls' := [.ref 0]) (st' := [.ref 0]) rfl ?_
  refine wp_geti (a := 8) (nI im) hi1 rfl rfl rfl ?_
  refine wp_if rfl (fun (cq4 : ¬ (nI im) = 0) => ?_) (fun (cq4 : ¬ (¬ (nI im) = 0)) => ?_)
  · skip
    have cq4n : ¬ (im = 0) := fun q => cq4 ((nI_eq (a := im) (b := 0) (by omega) (by omega)).mpr q)
    obtain ⟨n2, c2, t2, tp2, wt2, s02, s12, q0, q1, HK⟩ := hi3 (by omega)
    · skip
      refine wp_run 1 (pc' := 14) (ls' := [.ref 0]) (st' := [.ref 0]) rfl ?_
      refine wp_getr 1 rfl rfl rfl ?_
      refine wp_run 1 (pc' := 18) (ls' := [.ref 0]) (st' := [.ref 0, .ref 1]) rfl ?_
      refine wp_getr 24 rfl rfl rfl ?_
      refine wp_callV (o := 1) (as := [.ref 24]) (rest := []) (els := [.ref 1, .ref 24, am_du]) rfl rfl rfl rfl rfl rfl rfl rfl (by omega) ?_
      refine sp_hcopy1 (h := h) HK H.2.2.2.2.2.2.2.2.2.2.1.1.2.2.2.1 H.2.2.2.2.2.2.2.2.2.2.1.1.2.2.2.2.1 H.2.2.2.2.2.2.2.2.2.2.2.1.2.2.2.1 H.2.2.2.2.2.2.2.2.2.2.2.1.2.2.2.2.1 (by omega) (fun gk hgk => ?_)
      show am_wp L xs _ _ _ _ 24 [.ref 0] [] (am_S b) (am_ov h [1, 2, 3, 4, 5, 6, 7, 8, 9, 10, 11, 12, 14, 15, 16, 19, 20, 21] gk) _
      refine wp_run 1 (pc' := 25) (ls' := [.ref 0]) (st' := [.ref 0]) rfl ?_
      refine wp_getr 1 rfl rfl rfl ?_
      refine wp_geti (a := 12) (nI t2) hgk.2.2.1.1 rfl rfl rfl ?_
      refine wp_ret rfl ?_
      refine kk _ _ _ (fun ms2 Q2 kk2 => ?_)
      refine wp_run 1 (pc' := 1) (ls' := [.ref 74]) (st' := [.ref 74]) rfl ?_
      refine wp_geti (a := 2) (nI im) hi2 rfl rfl rfl ?_
      refine wp_if_t rfl (show ¬ (nI im) = 0 from mt (nI_eq (a := im) (b := 0) (by omega) (by omega)).mp (by omega)) ?_
      refine wp_run 1 (pc' := 15) (ls' := [.ref 74]) (st' := [.ref 74]) rfl ?_
      refine wp_getr 76 rfl rfl rfl ?_
      refine wp_run 1 (pc' := 19) (ls' := [.ref 74]) (st' := [.ref 74, .ref 76]) rfl ?_
      refine wp_getr 75 rfl rfl rfl ?_
      refine wp_callS (as := [.ref 76, .ref 75]) (rest := []) (els := [.ref 76, .ref 75, am_du]) rfl rfl rfl rfl rfl rfl rfl rfl (by omega) ?_
      refine sp_copyAll (h := (am_ov h [1, 2, 3, 4, 5, 6, 7, 8, 9, 10, 11, 12, 14, 15, 16, 19, 20, 21] gk)) (q := 76) (o := 75) rfl rfl (by omega) ?_
      show am_wp L xs _ _ _ _ 25 [.ref 74] [] (am_S b) (am_ur (am_ov h [1, 2, 3, 4, 5, 6, 7, 8, 9, 10, 11, 12, 14, 15, 16, 19, 20, 21] gk) 75 (cp_f ((am_ov h [1, 2, 3, 4, 5, 6, 7, 8, 9, 10, 11, 12, 14, 15, 16, 19, 20, 21] gk) 76) ((am_ov h [1, 2, 3, 4, 5, 6, 7, 8, 9, 10, 11, 12, 14, 15, 16, 19, 20, 21] gk) 75) 382)) _
      refine wp_run 1 (pc' := 26) (ls' := [.ref 74]) (st' := [.ref 74]) rfl ?_
      refine wp_getr 75 rfl rfl rfl ?_
      refine wp_run 1 (pc' := 30) (ls' := [.ref 74]) (st' := [.int 0, .ref 75]) rfl ?_
      refine wp_ald (i := 0) (nI t2) (show cp_f ((am_ov h [1, 2, 3, 4, 5, 6, 7, 8, 9, 10, 11, 12, 14, 15, 16, 19, 20, 21] gk) 76) ((am_ov h [1, 2, 3, 4, 5, 6, 7, 8, 9, 10, 11, 12, 14, 15, 16, 19, 20, 21] gk) 75) 382 0 = nI t2 from (if_pos (by omega)).trans HK.2.2.1.2.1) rfl rfl rfl (by decide) rfl ?_
      refine wp_ret rfl ?_
      exact kk2 _ _ ⟨⟨n2, c2, t2, tp2, wt2, s02, s12, q0, q1, re_row hgk (fun i hi => if_pos hi)⟩, re_im_s hI, hE, hS0, hS1, hS2, hS3, hT⟩
  · skip
    replace cq4 := Decidable.not_not.mp cq4
    have cq4n : im = 0 := (nI_eq (a := im) (b := 0) (by omega) (by omega)).mp cq4
    refine wp_run 2 (pc' := 9) (ls' := [.ref 0]) (st' := [.int 2, .ref 0]) rfl ?_
    refine wp_callV (o := 0) (as := [.int 2]) (rest := []) (els := [.ref 0, .int 2]) rfl rfl rfl rfl rfl rfl rfl rfl (by omega) ?_
    refine sp_refuse2 (by omega) ?_
    show am_wp L xs _ _ _ _ 12 [.ref 0] [.int (-1000000002)] (am_S b) (am_u h 73 2 (h 73 2 + 1)) _
    refine wp_ret rfl ?_
    refine kk _ _ _ (fun ms2 Q2 kk2 => ?_)
    refine wp_run 1 (pc' := 1) (ls' := [.ref 74]) (st' := [.ref 74]) rfl ?_
    refine wp_geti (a := 2) (nI im) hi2 rfl rfl rfl ?_
    refine wp_if_f rfl (show ¬ (¬ (nI im) = 0) from (fun q => q ((nI_eq (a := im) (b := 0) (by omega) (by omega)).mpr (by omega)))) ?_
    refine wp_run 2 (pc' := 10) (ls' := [.ref 74]) (st' := [.int (-1000000002), .ref 74]) rfl ?_
    refine wp_callV (o := 74) (as := [.int (-1000000002)]) (rest := []) (els := [.ref 74, .int (-1000000002)]) rfl rfl rfl rfl rfl rfl rfl rfl (by omega) ?_
    refine sp_error2 ?_
    show am_wp L xs _ _ _ _ 13 [.ref 74] [.int (-1000000002)] (am_S b) (am_u (am_u h 73 2 (h 73 2 + 1)) 77 2 ((am_u h 73 2 (h 73 2 + 1)) 77 2 + 1)) _
    refine wp_ret rfl ?_
    exact kk2 _ _ (re_err2 hR)
