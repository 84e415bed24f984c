/-! calls tied: count, body, right, check -/
theorem op_count {L : Nat} {xs : Nat → Int32} {d ms b N : Nat} {h : am_HI} {Q : am_Q} {x1 : Int32} (hd : 30 ≤ d) (hR : am_Rel N h) (hN : N < 100000)
    (kk : ∀ v b1 h1, (∀ ms2 Q2, (∀ b2 h2, am_Rel (N + 1) h2 → Q2 (some (.int v)) (am_S b2) h2) → am_wp L xs d 0 ms2 222 0 [.ref 74, .int x1] [] (am_S b1) h1 Q2) → Q (some (.int v)) (am_S b1) h1) :
    am_wp L xs d 0 ms 127 0 [.ref 0, .int x1] [] (am_S b) h Q := by
  obtain ⟨⟨n, c, t, tp, wt, s0, s1, p0, p1, H⟩, hI, hE, hS0, hS1, hS2, hS3, hT⟩ := id hR
  have hn := H.1.1
  have hm2 := H.1.2.1
  have hn7 := H.1.2.2
  have hc := H.2.1.1
  have hm3 := H.2.1.2.1
  have hc7 := H.2.1.2.2
  have ht := H.2.2.1.1
  have hm0 := H.2.2.1.2.1
  have ht9 := H.2.2.1.2.2
  have HS := re_hs H
  have HM := re_ms H
  obtain ⟨l, hl30, hl1, hl2, hl3⟩ := id hT
  refine wp_run 1 (pc' := 1) (ls' := [.ref 0, .int x1]) (st' := [.int x1]) rfl ?_
  refine wp_switch [(0, 48), (1, 56), (2, 64), (3, 72), (4, 80), (5, 91), (6, 102), (7, 113)] rfl rfl rfl ?_ ?_
  · refine List.forall_mem_cons.mpr ⟨fun (sw1 : x1 = _) => ?_, List.forall_mem_cons.mpr ⟨fun (sw1 : x1 = _) => ?_, List.forall_mem_cons.mpr ⟨fun (sw1 : x1 = _) => ?_, List.forall_mem_cons.mpr ⟨fun (sw1 : x1 = _) => ?_, List.forall_mem_cons.mpr ⟨fun (sw1 : x1 = _) => ?_, List.forall_mem_cons.mpr ⟨fun (sw1 : x1 = _) => ?_, List.forall_mem_cons.mpr ⟨fun (sw1 : x1 = _) => ?_, List.forall_mem_cons.mpr ⟨fun (sw1 : x1 = _) => ?_, fun _ h => absurd h List.not_mem_nil⟩⟩⟩⟩⟩⟩⟩⟩
    · skip
      have esw : x1 = 0 := sw1
      subst esw
      refine wp_run 1 (pc' := 49) (ls' := [.ref 0, .int 0]) (st' := [.ref 0]) rfl ?_
      refine wp_getr 1 rfl rfl rfl ?_
      refine wp_geti (a := 10) (nI n) hn rfl rfl rfl ?_
      refine wp_ret rfl ?_
      refine kk _ _ _ (fun ms2 Q2 kk2 => ?_)
      refine wp_run 1 (pc' := 1) (ls' := [.ref 74, .int 0]) (st' := [.int 0]) rfl ?_
      refine wp_sw rfl rfl ?_
      rw [show am_sw [((0), 48), ((1), 55), ((2), 62), ((3), 69), ((4), 76), ((5), 83), ((6), 91), ((7), 96)] 103 (Int32.toInt 0) = 48 from by decide]
      refine wp_run 1 (pc' := 49) (ls' := [.ref 74, .int 0]) (st' := [.ref 74]) rfl ?_
      refine wp_getr 75 rfl rfl rfl ?_
      refine wp_run 1 (pc' := 53) (ls' := [.ref 74, .int 0]) (st' := [.int 2, .ref 75]) rfl ?_
      refine wp_ald (i := 2) (nI n) hm2 rfl rfl rfl (by decide) rfl ?_
      refine wp_ret rfl ?_
      exact kk2 _ _ ⟨⟨n, c, t, tp, wt, s0, s1, p0, p1, H⟩, re_im_s hI, hE, hS0, hS1, hS2, hS3, hT⟩
    · skip
      have esw : x1 = 1 := sw1
      subst esw
      refine wp_run 1 (pc' := 57) (ls' := [.ref 0, .int 1]) (st' := [.ref 0]) rfl ?_
      refine wp_getr 1 rfl rfl rfl ?_
      refine wp_geti (a := 11) (nI c) hc rfl rfl rfl ?_
      refine wp_ret rfl ?_
      refine kk _ _ _ (fun ms2 Q2 kk2 => ?_)
      refine wp_run 1 (pc' := 1) (ls' := [.ref 74, .int 1]) (st' := [.int 1]) rfl ?_
      refine wp_sw rfl rfl ?_
      rw [show am_sw [((0), 48), ((1), 55), ((2), 62), ((3), 69), ((4), 76), ((5), 83), ((6), 91), ((7), 96)] 103 (Int32.toInt 1) = 55 from by decide]
      refine wp_run 1 (pc' := 56) (ls' := [.ref 74, .int 1]) (st' := [.ref 74]) rfl ?_
      refine wp_getr 75 rfl rfl rfl ?_
      refine wp_run 1 (pc' := 60) (ls' := [.ref 74, .int 1]) (st' := [.int 3, .ref 75]) rfl ?_
      refine wp_ald (i := 3) (nI c) hm3 rfl rfl rfl (by decide) rfl ?_
      refine wp_ret rfl ?_
      exact kk2 _ _ ⟨⟨n, c, t, tp, wt, s0, s1, p0, p1, H⟩, re_im_s hI, hE, hS0, hS1, hS2, hS3, hT⟩
    · skip
      have esw : x1 = 2 := sw1
      subst esw
      refine wp_run 1 (pc' := 65) (ls' := [.ref 0, .int 2]) (st' := [.ref 0]) rfl ?_
      refine wp_getr 1 rfl rfl rfl ?_
      refine wp_geti (a := 12) (nI t) ht rfl rfl rfl ?_
      refine wp_ret rfl ?_
      refine kk _ _ _ (fun ms2 Q2 kk2 => ?_)
      refine wp_run 1 (pc' := 1) (ls' := [.ref 74, .int 2]) (st' := [.int 2]) rfl ?_
      refine wp_sw rfl rfl ?_
      rw [show am_sw [((0), 48), ((1), 55), ((2), 62), ((3), 69), ((4), 76), ((5), 83), ((6), 91), ((7), 96)] 103 (Int32.toInt 2) = 62 from by decide]
      refine wp_run 1 (pc' := 63) (ls' := [.ref 74, .int 2]) (st' := [.ref 74]) rfl ?_
      refine wp_getr 75 rfl rfl rfl ?_
      refine wp_run 1 (pc' := 67) (ls' := [.ref 74, .int 2]) (st' := [.int 0, .ref 75]) rfl ?_
      refine wp_ald (i := 0) (nI t) hm0 rfl rfl rfl (by decide) rfl ?_
      refine wp_ret rfl ?_
      exact kk2 _ _ ⟨⟨n, c, t, tp, wt, s0, s1, p0, p1, H⟩, re_im_s hI, hE, hS0, hS1, hS2, hS3, hT⟩
    · skip
      have esw : x1 = 3 := sw1
      subst esw
      refine wp_run 1 (pc' := 73) (ls' := [.ref 0, .int 3]) (st' := [.ref 0]) rfl ?_
      refine wp_getr 1 rfl rfl rfl ?_
      refine wp_geti (a := 13) (h 1 13) rfl rfl rfl rfl ?_
      refine wp_ret rfl ?_
      refine kk _ _ _ (fun ms2 Q2 kk2 => ?_)
      refine wp_run 1 (pc' := 1) (ls' := [.ref 74, .int 3]) (st' := [.int 3]) rfl ?_
      refine wp_sw rfl rfl ?_
      rw [show am_sw [((0), 48), ((1), 55), ((2), 62), ((3), 69), ((4), 76), ((5), 83), ((6), 91), ((7), 96)] 103 (Int32.toInt 3) = 69 from by decide]
      refine wp_run 1 (pc' := 70) (ls' := [.ref 74, .int 3]) (st' := [.ref 74]) rfl ?_
      refine wp_getr 75 rfl rfl rfl ?_
      refine wp_run 1 (pc' := 74) (ls' := [.ref 74, .int 3]) (st' := [.int 4, .ref 75]) rfl ?_
      refine wp_ald (i := 4) (h 75 4) rfl rfl rfl rfl (by decide) rfl ?_
      refine wp_ret rfl ?_
      rw [show ((h 75 4) : Int32) = (h 1 13) from (H.2.2.2.1.1.symm)]
      exact kk2 _ _ ⟨⟨n, c, t, tp, wt, s0, s1, p0, p1, H⟩, re_im_s hI, hE, hS0, hS1, hS2, hS3, hT⟩
    · skip
      have esw : x1 = 4 := sw1
      subst esw
      refine wp_run 1 (pc' := 81) (ls' := [.ref 0, .int 4]) (st' := [.ref 0]) rfl ?_
      refine wp_getr 1 rfl rfl rfl ?_
      refine wp_getr 9 rfl rfl rfl ?_
      refine wp_geti (a := 1) (nI tp) H.2.2.2.2.2.2.2.2.1.1 rfl rfl rfl ?_
      refine wp_ret rfl ?_
      refine kk _ _ _ (fun ms2 Q2 kk2 => ?_)
      refine wp_run 1 (pc' := 1) (ls' := [.ref 74, .int 4]) (st' := [.int 4]) rfl ?_
      refine wp_sw rfl rfl ?_
      rw [show am_sw [((0), 48), ((1), 55), ((2), 62), ((3), 69), ((4), 76), ((5), 83), ((6), 91), ((7), 96)] 103 (Int32.toInt 4) = 76 from by decide]
      refine wp_run 1 (pc' := 77) (ls' := [.ref 74, .int 4]) (st' := [.ref 74]) rfl ?_
      refine wp_getr 75 rfl rfl rfl ?_
      refine wp_run 1 (pc' := 81) (ls' := [.ref 74, .int 4]) (st' := [.int 5, .ref 75]) rfl ?_
      refine wp_ald (i := 5) (nI tp) H.2.2.2.2.2.2.2.2.1.2.1 rfl rfl rfl (by decide) rfl ?_
      refine wp_ret rfl ?_
      exact kk2 _ _ ⟨⟨n, c, t, tp, wt, s0, s1, p0, p1, H⟩, re_im_s hI, hE, hS0, hS1, hS2, hS3, hT⟩
    · skip
      have esw : x1 = 5 := sw1
      subst esw
      refine wp_run 1 (pc' := 92) (ls' := [.ref 0, .int 5]) (st' := [.ref 0]) rfl ?_
      refine wp_getr 1 rfl rfl rfl ?_
      refine wp_getr 11 rfl rfl rfl ?_
      refine wp_geti (a := 1) (nI wt) H.2.2.2.2.2.2.2.2.2.1.1 rfl rfl rfl ?_
      refine wp_ret rfl ?_
      refine kk _ _ _ (fun ms2 Q2 kk2 => ?_)
      refine wp_run 1 (pc' := 1) (ls' := [.ref 74, .int 5]) (st' := [.int 5]) rfl ?_
      refine wp_sw rfl rfl ?_
      rw [show am_sw [((0), 48), ((1), 55), ((2), 62), ((3), 69), ((4), 76), ((5), 83), ((6), 91), ((7), 96)] 103 (Int32.toInt 5) = 83 from by decide]
      refine wp_run 1 (pc' := 84) (ls' := [.ref 74, .int 5]) (st' := [.ref 74]) rfl ?_
      refine wp_getr 75 rfl rfl rfl ?_
      refine wp_run 1 (pc' := 89) (ls' := [.ref 74, .int 5]) (st' := [.int 6, .ref 75]) rfl ?_
      refine wp_ald (i := 6) (nI wt) H.2.2.2.2.2.2.2.2.2.1.2.1 rfl rfl rfl (by decide) rfl ?_
      refine wp_ret rfl ?_
      exact kk2 _ _ ⟨⟨n, c, t, tp, wt, s0, s1, p0, p1, H⟩, re_im_s hI, hE, hS0, hS1, hS2, hS3, hT⟩
    · skip
      have esw : x1 = 6 := sw1
      subst esw
      refine wp_run 1 (pc' := 103) (ls' := [.ref 0, .int 6]) (st' := [.ref 0]) rfl ?_
      refine wp_getr 61 rfl rfl rfl ?_
      refine wp_getr 62 rfl rfl rfl ?_
      refine wp_geti (a := 1) (nI l) hl1 rfl rfl rfl ?_
      refine wp_ret rfl ?_
      refine kk _ _ _ (fun ms2 Q2 kk2 => ?_)
      refine wp_run 1 (pc' := 1) (ls' := [.ref 74, .int 6]) (st' := [.int 6]) rfl ?_
      refine wp_sw rfl rfl ?_
      rw [show am_sw [((0), 48), ((1), 55), ((2), 62), ((3), 69), ((4), 76), ((5), 83), ((6), 91), ((7), 96)] 103 (Int32.toInt 6) = 91 from by decide]
      refine wp_run 1 (pc' := 92) (ls' := [.ref 74, .int 6]) (st' := [.ref 74]) rfl ?_
      refine wp_geti (a := 25) (nI l) hl2 rfl rfl rfl ?_
      refine wp_ret rfl ?_
      exact kk2 _ _ ⟨⟨n, c, t, tp, wt, s0, s1, p0, p1, H⟩, re_im_s hI, hE, hS0, hS1, hS2, hS3, hT⟩
    · skip
      have esw : x1 = 7 := sw1
      subst esw
      refine wp_run 1 (pc' := 114) (ls' := [.ref 0, .int 7]) (st' := [.ref 0]) rfl ?_
      refine wp_getr 1 rfl rfl rfl ?_
      refine wp_geti (a := 14) (h 1 14) rfl rfl rfl rfl ?_
      refine wp_ret rfl ?_
      refine kk _ _ _ (fun ms2 Q2 kk2 => ?_)
      refine wp_run 1 (pc' := 1) (ls' := [.ref 74, .int 7]) (st' := [.int 7]) rfl ?_
      refine wp_sw rfl rfl ?_
      rw [show am_sw [((0), 48), ((1), 55), ((2), 62), ((3), 69), ((4), 76), ((5), 83), ((6), 91), ((7), 96)] 103 (Int32.toInt 7) = 96 from by decide]
      refine wp_run 1 (pc' := 97) (ls' := [.ref 74, .int 7]) (st' := [.ref 74]) rfl ?_
      refine wp_getr 75 rfl rfl rfl ?_
      refine wp_run 1 (pc' := 101) (ls' := [.ref 74, .int 7]) (st' := [.int 1, .ref 75]) rfl ?_
      refine wp_ald (i := 1) (h 75 1) rfl rfl rfl rfl (by decide) rfl ?_
      refine wp_ret rfl ?_
      rw [show ((h 75 1) : Int32) = (h 1 14) from (H.2.2.2.1.2.symm)]
      exact kk2 _ _ ⟨⟨n, c, t, tp, wt, s0, s1, p0, p1, H⟩, re_im_s hI, hE, hS0, hS1, hS2, hS3, hT⟩
  · intro sw1
    simp only [List.forall_mem_cons] at sw1
    have hsw : ∀ k, k ≤ 7 → x1 ≠ nI k := fun k hk e => by
      have hk2 : k = 0 ∨ k = 1 ∨ k = 2 ∨ k = 3 ∨ k = 4 ∨ k = 5 ∨ k = 6 ∨ k = 7 := by omega
      rcases hk2 with e2 | e2 | e2 | e2 | e2 | e2 | e2 | e2
      · subst e2; exact sw1.1 e
      · subst e2; exact sw1.2.1 e
      · subst e2; exact sw1.2.2.1 e
      · subst e2; exact sw1.2.2.2.1 e
      · subst e2; exact sw1.2.2.2.2.1 e
      · subst e2; exact sw1.2.2.2.2.2.1 e
      · subst e2; exact sw1.2.2.2.2.2.2.1 e
      · subst e2; exact sw1.2.2.2.2.2.2.2.1 e
    refine wp_run 2 (pc' := 123) (ls' := [.ref 0, .int x1]) (st' := [.int 1, .ref 0]) rfl ?_
    refine wp_callV (o := 0) (as := [.int 1]) (rest := []) (els := [.ref 0, .int 1]) rfl rfl rfl rfl rfl rfl rfl rfl (by omega) ?_
    refine sp_refuse1 (by omega) ?_
    show am_wp L xs _ _ _ _ 126 [.ref 0, .int x1] [.int (-1000000001)] (am_S b) (am_u h 73 1 (h 73 1 + 1)) _
    refine wp_ret rfl ?_
    refine kk _ _ _ (fun ms2 Q2 kk2 => ?_)
    refine wp_run 1 (pc' := 1) (ls' := [.ref 74, .int x1]) (st' := [.int x1]) rfl ?_
    refine wp_switch [(0, 48), (1, 55), (2, 62), (3, 69), (4, 76), (5, 83), (6, 91), (7, 96)] rfl rfl rfl (List.forall_mem_cons.mpr ⟨fun e => absurd e (hsw 0 (by omega)), List.forall_mem_cons.mpr ⟨fun e => absurd e (hsw 1 (by omega)), List.forall_mem_cons.mpr ⟨fun e => absurd e (hsw 2 (by omega)), List.forall_mem_cons.mpr ⟨fun e => absurd e (hsw 3 (by omega)), List.forall_mem_cons.mpr ⟨fun e => absurd e (hsw 4 (by omega)), List.forall_mem_cons.mpr ⟨fun e => absurd e (hsw 5 (by omega)), List.forall_mem_cons.mpr ⟨fun e => absurd e (hsw 6 (by omega)), List.forall_mem_cons.mpr ⟨fun e => absurd e (hsw 7 (by omega)), fun _ h => absurd h List.not_mem_nil⟩⟩⟩⟩⟩⟩⟩⟩) (fun _ => ?_)
    refine wp_run 2 (pc' := 106) (ls' := [.ref 74, .int x1]) (st' := [.int (-1000000001), .ref 74]) rfl ?_
    refine wp_callV (o := 74) (as := [.int (-1000000001)]) (rest := []) (els := [.ref 74, .int (-1000000001)]) rfl rfl rfl rfl rfl rfl rfl rfl (by omega) ?_
    refine sp_error1 ?_
    show am_wp L xs _ _ _ _ 109 [.ref 74, .int x1] [.int (-1000000001)] (am_S b) (am_u (am_u h 73 1 (h 73 1 + 1)) 77 1 ((am_u h 73 1 (h 73 1 + 1)) 77 1 + 1)) _
    refine wp_ret rfl ?_
    exact kk2 _ _ (re_err1 hR)
theorem op_body {L : Nat} {xs : Nat → Int32} {d ms b N : Nat} {h : am_HI} {Q : am_Q} {x1 : Int32} (hd : 30 ≤ d) (hR : am_Rel N h) (hN : N < 100000)
    (kk : ∀ v b1 h1, (∀ ms2 Q2, (∀ b2 h2, am_Rel (N + 1) h2 → Q2 (some (.int v)) (am_S b2) h2) → am_wp L xs d 0 ms2 209 0 [.ref 74, .int x1] [] (am_S b1) h1 Q2) → Q (some (.int v)) (am_S b1) h1) :
    am_wp L xs d 0 ms 110 0 [.ref 0, .int x1] [] (am_S b) h Q := by
  obtain ⟨⟨n, c, t, tp, wt, s0, s1, p0, p1, H⟩, hI, hE, hS0, hS1, hS2, hS3, hT⟩ := id hR
  have hn := H.1.1
  have hm2 := H.1.2.1
  have hn7 := H.1.2.2
  have hc := H.2.1.1
  have hm3 := H.2.1.2.1
  have hc7 := H.2.1.2.2
  have ht := H.2.2.1.1
  have hm0 := H.2.2.1.2.1
  have ht9 := H.2.2.1.2.2
  have HS := re_hs H
  have HM := re_ms H
  obtain ⟨l, hl30, hl1, hl2, hl3⟩ := id hT
  refine wp_run 3 (pc' := 3) (ls' := [.ref 0, .int x1]) (st' := [.ref 0, .int 0, .int x1]) rfl ?_
  refine wp_getr 61 rfl rfl rfl ?_
  refine wp_getr 62 rfl rfl rfl ?_
  refine wp_geti (a := 1) (nI l) hl1 rfl rfl rfl ?_
  refine wp_run 2 (pc' := 14) (ls' := [.ref 0, .int x1]) (st' := [.int ((nI l) - 1), .int 0, .int x1]) rfl ?_
  refine wp_callS (as := [.int x1, .int 0, .int ((nI l) - 1)]) (rest := []) (els := [.int x1, .int 0, .int ((nI l) - 1)]) rfl rfl rfl rfl rfl rfl rfl rfl (by omega) ?_
  refine sp_x_within1 (m := l) (by omega) rfl ?_ ?_
  · skip
    intro kx1 hkx1 ex1
    subst ex1
    show am_wp L xs _ _ _ _ 17 [.ref 0, .int (nI kx1)] [.int 1] (am_S b) h _
    refine wp_if_t rfl (show ¬ (1 : Int32) = 0 from by decide) ?_
    refine wp_run 1 (pc' := 27) (ls' := [.ref 0, .int (nI kx1)]) (st' := [.ref 0]) rfl ?_
    refine wp_getr 61 rfl rfl rfl ?_
    refine wp_getr 62 rfl rfl rfl ?_
    refine wp_getr 63 rfl rfl rfl ?_
    refine wp_run 1 (pc' := 37) (ls' := [.ref 0, .int (nI kx1)]) (st' := [.int (nI kx1), .ref 63]) rfl ?_
    refine wp_ald (i := kx1) (h 63 kx1) rfl rfl rfl rfl (by omega) rfl ?_
    refine wp_ret rfl ?_
    refine kk _ _ _ (fun ms2 Q2 kk2 => ?_)
    refine wp_run 3 (pc' := 3) (ls' := [.ref 74, .int (nI kx1)]) (st' := [.ref 74, .int 0, .int (nI kx1)]) rfl ?_
    refine wp_geti (a := 25) (nI l) hl2 rfl rfl rfl ?_
    refine wp_run 2 (pc' := 8) (ls' := [.ref 74, .int (nI kx1)]) (st' := [.int ((nI l) - 1), .int 0, .int (nI kx1)]) rfl ?_
    refine wp_callS (as := [.int (nI kx1), .int 0, .int ((nI l) - 1)]) (rest := []) (els := [.int (nI kx1), .int 0, .int ((nI l) - 1)]) rfl rfl rfl rfl rfl rfl rfl rfl (by omega) ?_
    refine sp_m_in1 (m := l) (by omega) rfl (fun _ _ _ => ?_) (fun q => absurd rfl (q kx1 (by omega)))
    show am_wp L xs _ _ _ _ 11 [.ref 74, .int (nI kx1)] [.int 1] (am_S b) h _
    refine wp_if_f rfl (show ¬ ((1 : Int32) = 0) from by decide) ?_
    refine wp_run 1 (pc' := 15) (ls' := [.ref 74, .int (nI kx1)]) (st' := [.ref 74]) rfl ?_
    refine wp_getr 91 rfl rfl rfl ?_
    refine wp_run 1 (pc' := 19) (ls' := [.ref 74, .int (nI kx1)]) (st' := [.int (nI kx1), .ref 91]) rfl ?_
    refine wp_ald (i := kx1) (h 91 kx1) rfl rfl rfl rfl (by omega) rfl ?_
    refine wp_run 1 (pc' := 29) (ls' := [.ref 74, .int (nI kx1)]) (st' := [.int (h 91 kx1)]) rfl ?_
    refine wp_ret rfl ?_
    rw [show ((h 91 kx1) : Int32) = (h 63 kx1) from (hl3 kx1 (by omega)).symm]
    exact kk2 _ _ ⟨⟨n, c, t, tp, wt, s0, s1, p0, p1, H⟩, re_im_s hI, hE, hS0, hS1, hS2, hS3, hT⟩
  · skip
    intro hnx1
    show am_wp L xs _ _ _ _ 17 [.ref 0, .int x1] [.int 0] (am_S b) h _
    refine wp_if_f rfl (show ¬ (¬ (0 : Int32) = 0) from by decide) ?_
    refine wp_run 2 (pc' := 22) (ls' := [.ref 0, .int x1]) (st' := [.int 2, .ref 0]) rfl ?_
    refine wp_callV (o := 0) (as := [.int 2]) (rest := []) (els := [.ref 0, .int 2]) rfl rfl rfl rfl rfl rfl rfl rfl (by omega) ?_
    refine sp_refuse2 (by omega) ?_
    show am_wp L xs _ _ _ _ 25 [.ref 0, .int x1] [.int (-1000000002)] (am_S b) (am_u h 73 2 (h 73 2 + 1)) _
    refine wp_ret rfl ?_
    refine kk _ _ _ (fun ms2 Q2 kk2 => ?_)
    refine wp_run 3 (pc' := 3) (ls' := [.ref 74, .int x1]) (st' := [.ref 74, .int 0, .int x1]) rfl ?_
    refine wp_geti (a := 25) (nI l) hl2 rfl rfl rfl ?_
    refine wp_run 2 (pc' := 8) (ls' := [.ref 74, .int x1]) (st' := [.int ((nI l) - 1), .int 0, .int x1]) rfl ?_
    refine wp_callS (as := [.int x1, .int 0, .int ((nI l) - 1)]) (rest := []) (els := [.int x1, .int 0, .int ((nI l) - 1)]) rfl rfl rfl rfl rfl rfl rfl rfl (by omega) ?_
    refine sp_m_in1 (m := l) (by omega) rfl (fun k hk e => absurd e (hnx1 k hk)) (fun _ => ?_)
    show am_wp L xs _ _ _ _ 11 [.ref 74, .int x1] [.int 0] (am_S b) (am_u h 73 2 (h 73 2 + 1)) _
    refine wp_if_t rfl (show (0 : Int32) = 0 from by decide) ?_
    refine wp_run 2 (pc' := 26) (ls' := [.ref 74, .int x1]) (st' := [.int (-1000000002), .ref 74]) rfl ?_
    refine wp_callV (o := 74) (as := [.int (-1000000002)]) (rest := []) (els := [.ref 74, .int (-1000000002)]) rfl rfl rfl rfl rfl rfl rfl rfl (by omega) ?_
    refine sp_error2 ?_
    show am_wp L xs _ _ _ _ 29 [.ref 74, .int x1] [.int (-1000000002)] (am_S b) (am_u (am_u h 73 2 (h 73 2 + 1)) 77 2 ((am_u h 73 2 (h 73 2 + 1)) 77 2 + 1)) _
    refine wp_ret rfl ?_
    exact kk2 _ _ (re_err2 hR)
def hs_rt (e u : Nat → Int32) : Nat → Nat
  | 0 => 0
  | g + 1 => hs_rt e u g + (if e g = -1 then 0 else if u (e g).toNatClampNeg = nI g then 1 else 0)
theorem hs_rt_0 {e u : Nat → Int32} {g : Nat} (h : e g = -1) : hs_rt e u (g + 1) = hs_rt e u g := by
  show hs_rt e u g + _ = _
  rw [if_pos h, Nat.add_zero]
theorem hs_rt_1 {e u : Nat → Int32} {g j : Nat} (h : e g = nI j) (hj : j < 7) (h2 : u j = nI g) : hs_rt e u (g + 1) = hs_rt e u g + 1 := by
  show hs_rt e u g + _ = _
  rw [h, if_neg (pu_ne1 (by omega)), nI_clamp (by omega), if_pos h2]
theorem hs_rt_n {e u : Nat → Int32} {g j : Nat} (h : e g = nI j) (hj : j < 7) (h2 : u j ≠ nI g) : hs_rt e u (g + 1) = hs_rt e u g := by
  show hs_rt e u g + _ = _
  rw [h, if_neg (pu_ne1 (by omega)), nI_clamp (by omega), if_neg h2, Nat.add_zero]
theorem hs_rt_le (e u : Nat → Int32) : ∀ n, hs_rt e u n ≤ n
  | 0 => Nat.le_refl 0
  | n + 1 => by
    have ih := hs_rt_le e u n
    show hs_rt e u n + _ ≤ _
    by_cases h : e n = -1
    · rw [if_pos h]; omega
    · rw [if_neg h]
      by_cases h2 : u (e n).toNatClampNeg = nI n
      · rw [if_pos h2]; omega
      · rw [if_neg h2]; omega
theorem re_rt {h : am_HI} {n c t tp wt : Nat} {s0 s1 : Int32} {p0 p1 : List Int32} (H : re_H h n c t tp wt s0 s1 p0 p1) : ∀ i, i ≤ n → hs_rt (fun g => h 75 (7 + 4 * g + 3)) (fun j => h 75 (35 + 3 * j + 2)) i = hs_rt (h 5) (h 8) i
  | 0, _ => rfl
  | i + 1, hi => by
    have ih := re_rt H i (by omega)
    have e1 := re_hase H (g := i) (by omega)
    show hs_rt _ _ i + _ = hs_rt _ _ i + _
    rw [ih]
    show hs_rt (h 5) (h 8) i + (if h 75 (7 + 4 * i + 3) = -1 then 0 else if h 75 (35 + 3 * (h 75 (7 + 4 * i + 3)).toNatClampNeg + 2) = nI i then 1 else 0) = _
    have hc7 := H.2.1.2.2
    rcases (H.2.2.2.2.2.2.1 i (by omega)).2.2.2 with q | ⟨j, hj, q⟩
    · rw [if_pos q, if_pos (e1.symm.trans q)]
    · rw [show h 75 (7 + 4 * i + 3) = nI j from e1.symm.trans q, q, if_neg (pu_ne1 (by omega)), if_neg (pu_ne1 (by omega)), nI_clamp (by omega), (H.2.2.2.2.2.1 j (by omega)).2.2]
theorem lp_right {L : Nat} {xs : Nat → Int32} {d ms b : Nat} {h : am_HI} {Q : am_Q} {n c t : Nat} {s0 s1 : Int32} {p0 p1 : List Int32} (HS : am_hs h n c t s0 s1 p0 p1) (hd : 4 ≤ d) (kk : Q (some (.int (nI (hs_rt (h 5) (h 8) n)))) (am_S b) h) :
    ∀ (m i : Nat), i + m = n → am_wp L xs d 0 ms 89 4 [.ref 0, .int (nI (hs_rt (h 5) (h 8) i)), .int (nI i)] [] (am_S b) h Q := by
  have hn := HS.1
  have hc := HS.2.1
  have hn7 := HS.2.2.2.1
  have hc7 := HS.2.2.2.2.1
  intro m
  induction m with
  | zero =>
    intro i hi
    refine wp_run 2 (pc' := 6) (ls' := [.ref 0, .int (nI (hs_rt (h 5) (h 8) i)), .int (nI i)]) (st' := [.ref 0, .int (nI i)]) rfl ?_
    refine wp_getr 1 rfl rfl rfl ?_
    refine wp_geti (a := 10) (nI n) hn rfl rfl rfl ?_
    refine wp_icmp_t rfl (show (nI n) ≤ (nI i) from (nI_leI (a := n) (b := i) (by omega) (by omega)).mpr (by omega)) ?_
    refine wp_run 1 (pc' := 45) (ls' := [.ref 0, .int (nI (hs_rt (h 5) (h 8) i)), .int (nI i)]) (st' := [.int (nI (hs_rt (h 5) (h 8) i))]) rfl ?_
    refine wp_ret rfl ?_
    have e : i = n := by omega
    subst e
    exact kk
  | succ m ih =>
    intro i hi
    rcases HS.2.2.2.2.2.2.2.2.2.2 i (by omega) with e5 | ⟨j, hj, ej⟩
    · skip
      refine wp_run 2 (pc' := 6) (ls' := [.ref 0, .int (nI (hs_rt (h 5) (h 8) i)), .int (nI i)]) (st' := [.ref 0, .int (nI i)]) rfl ?_
      refine wp_getr 1 rfl rfl rfl ?_
      refine wp_geti (a := 10) (nI n) hn rfl rfl rfl ?_
      refine wp_icmp_f rfl (show ¬ ((nI n) ≤ (nI i)) from mt (nI_leI (a := n) (b := i) (by omega) (by omega)).mp (by omega)) ?_
      refine wp_run 1 (pc' := 16) (ls' := [.ref 0, .int (nI (hs_rt (h 5) (h 8) i)), .int (nI i)]) (st' := [.ref 0]) rfl ?_
      refine wp_getr 1 rfl rfl rfl ?_
      refine wp_run 1 (pc' := 20) (ls' := [.ref 0, .int (nI (hs_rt (h 5) (h 8) i)), .int (nI i)]) (st' := [.ref 0, .ref 1]) rfl ?_
      refine wp_getr 1 rfl rfl rfl ?_
      refine wp_getr 5 rfl rfl rfl ?_
      refine wp_run 1 (pc' := 27) (ls' := [.ref 0, .int (nI (hs_rt (h 5) (h 8) i)), .int (nI i)]) (st' := [.int (nI i), .ref 5, .ref 1]) rfl ?_
      refine wp_ald (i := i) (-1) e5 rfl rfl rfl (by omega) rfl ?_
      refine wp_run 1 (pc' := 29) (ls' := [.ref 0, .int (nI (hs_rt (h 5) (h 8) i)), .int (nI i)]) (st' := [.int (nI i), .int (-1), .ref 1]) rfl ?_
      refine wp_callV (o := 1) (as := [.int (-1), .int (nI i)]) (rest := []) (els := [.ref 1, .int (-1), .int (nI i)]) rfl rfl rfl rfl rfl rfl rfl rfl (by omega) ?_
      refine sp_isOwn (h := h) hc hc7 (by omega) (fun j hj e _ => absurd e.symm (pu_ne1 (by omega))) (fun _ => ?_)
      show am_wp L xs _ _ _ _ 32 [.ref 0, .int (nI (hs_rt (h 5) (h 8) i)), .int (nI i)] [.int 0] (am_S b) h _
      refine wp_if_t rfl (show (0 : Int32) = 0 from by decide) ?_
      refine wp_run 2 (pc' := 4) (ls' := [.ref 0, .int (nI (hs_rt (h 5) (h 8) i)), .int ((nI i) + 1)]) (st' := []) rfl ?_
      rw [show (((nI i) + 1) : Int32) = (nI (i + 1)) from nI_add i 1]
      have ih2 := ih (i + 1) (by omega)
      rw [hs_rt_0 e5] at ih2
      exact ih2
    · skip
      refine wp_run 2 (pc' := 6) (ls' := [.ref 0, .int (nI (hs_rt (h 5) (h 8) i)), .int (nI i)]) (st' := [.ref 0, .int (nI i)]) rfl ?_
      refine wp_getr 1 rfl rfl rfl ?_
      refine wp_geti (a := 10) (nI n) hn rfl rfl rfl ?_
      refine wp_icmp_f rfl (show ¬ ((nI n) ≤ (nI i)) from mt (nI_leI (a := n) (b := i) (by omega) (by omega)).mp (by omega)) ?_
      refine wp_run 1 (pc' := 16) (ls' := [.ref 0, .int (nI (hs_rt (h 5) (h 8) i)), .int (nI i)]) (st' := [.ref 0]) rfl ?_
      refine wp_getr 1 rfl rfl rfl ?_
      refine wp_run 1 (pc' := 20) (ls' := [.ref 0, .int (nI (hs_rt (h 5) (h 8) i)), .int (nI i)]) (st' := [.ref 0, .ref 1]) rfl ?_
      refine wp_getr 1 rfl rfl rfl ?_
      refine wp_getr 5 rfl rfl rfl ?_
      refine wp_run 1 (pc' := 27) (ls' := [.ref 0, .int (nI (hs_rt (h 5) (h 8) i)), .int (nI i)]) (st' := [.int (nI i), .ref 5, .ref 1]) rfl ?_
      refine wp_ald (i := i) (nI j) ej rfl rfl rfl (by omega) rfl ?_
      refine wp_run 1 (pc' := 29) (ls' := [.ref 0, .int (nI (hs_rt (h 5) (h 8) i)), .int (nI i)]) (st' := [.int (nI i), .int (nI j), .ref 1]) rfl ?_
      refine wp_callV (o := 1) (as := [.int (nI j), .int (nI i)]) (rest := []) (els := [.ref 1, .int (nI j), .int (nI i)]) rfl rfl rfl rfl rfl rfl rfl rfl (by omega) ?_
      refine sp_isOwn (h := h) hc hc7 (by omega) ?_ ?_
      · skip
        intro j2 hj2 ej2 ho2
        have e2 : j = j2 := pu_inj (by omega) (by omega) ej2
        subst e2
        show am_wp L xs _ _ _ _ 32 [.ref 0, .int (nI (hs_rt (h 5) (h 8) i)), .int (nI i)] [.int 1] (am_S b) h _
        refine wp_if_f rfl (show ¬ ((1 : Int32) = 0) from by decide) ?_
        refine wp_run 3 (pc' := 4) (ls' := [.ref 0, .int ((nI (hs_rt (h 5) (h 8) i)) + 1), .int ((nI i) + 1)]) (st' := []) rfl ?_
        rw [show (((nI (hs_rt (h 5) (h 8) i)) + 1) : Int32) = (nI ((hs_rt (h 5) (h 8) i) + 1)) from nI_add (hs_rt (h 5) (h 8) i) 1]
        rw [show (((nI i) + 1) : Int32) = (nI (i + 1)) from nI_add i 1]
        have ih2 := ih (i + 1) (by omega)
        rw [hs_rt_1 ej (by omega) ho2] at ih2
        exact ih2
      · skip
        intro hno
        show am_wp L xs _ _ _ _ 32 [.ref 0, .int (nI (hs_rt (h 5) (h 8) i)), .int (nI i)] [.int 0] (am_S b) h _
        refine wp_if_t rfl (show (0 : Int32) = 0 from by decide) ?_
        refine wp_run 2 (pc' := 4) (ls' := [.ref 0, .int (nI (hs_rt (h 5) (h 8) i)), .int ((nI i) + 1)]) (st' := []) rfl ?_
        rw [show (((nI i) + 1) : Int32) = (nI (i + 1)) from nI_add i 1]
        have ih2 := ih (i + 1) (by omega)
        rw [hs_rt_n ej (by omega) (hno j hj rfl)] at ih2
        exact ih2
theorem sp_right {L : Nat} {xs : Nat → Int32} {d ms b : Nat} {h : am_HI} {Q : am_Q} {n c t : Nat} {s0 s1 : Int32} {p0 p1 : List Int32} (HS : am_hs h n c t s0 s1 p0 p1) (hd : 4 ≤ d) (kk : Q (some (.int (nI (hs_rt (h 5) (h 8) n)))) (am_S b) h) :
    am_wp L xs d 0 ms 89 0 [.ref 0, am_du, am_du] [] (am_S b) h Q := by
  refine wp_run 4 (pc' := 4) (ls' := [.ref 0, .int 0, .int 0]) (st' := []) rfl ?_
  exact lp_right HS hd kk n 0 (by omega)
theorem lp_m_right {L : Nat} {xs : Nat → Int32} {d ms b : Nat} {h : am_HI} {Q : am_Q} {n c t : Nat} {s0 s1 : Int32} {p0 p1 : List Int32} (HM : am_ms h n c t s0 s1 p0 p1) (hd : 4 ≤ d) (kk : Q (some (.int (nI (hs_rt (fun g => h 75 (7 + 4 * g + 3)) (fun j => h 75 (35 + 3 * j + 2)) n)))) (am_S b) h) :
    ∀ (m i : Nat) (u3 : Value), i + m = n → am_wp L xs d 0 ms 190 4 [.ref 74, .int (nI (hs_rt (fun g => h 75 (7 + 4 * g + 3)) (fun j => h 75 (35 + 3 * j + 2)) i)), .int (nI i), u3] [] (am_S b) h Q := by
  have hm2 := HM.1
  have hm3 := HM.2.1
  have hn7 := HM.2.2.2.1
  have hc7 := HM.2.2.2.2.1
  intro m
  induction m with
  | zero =>
    intro i u3 hi
    refine wp_run 2 (pc' := 6) (ls' := [.ref 74, .int (nI (hs_rt (fun g => h 75 (7 + 4 * g + 3)) (fun j => h 75 (35 + 3 * j + 2)) i)), .int (nI i), u3]) (st' := [.ref 74, .int (nI i)]) rfl ?_
    refine wp_getr 75 rfl rfl rfl ?_
    refine wp_run 1 (pc' := 10) (ls' := [.ref 74, .int (nI (hs_rt (fun g => h 75 (7 + 4 * g + 3)) (fun j => h 75 (35 + 3 * j + 2)) i)), .int (nI i), u3]) (st' := [.int 2, .ref 75, .int (nI i)]) rfl ?_
    refine wp_ald (i := 2) (nI n) hm2 rfl rfl rfl (by decide) rfl ?_
    refine wp_icmp_t rfl (show (nI n) ≤ (nI i) from (nI_leI (a := n) (b := i) (by omega) (by omega)).mpr (by omega)) ?_
    refine wp_run 1 (pc' := 50) (ls' := [.ref 74, .int (nI (hs_rt (fun g => h 75 (7 + 4 * g + 3)) (fun j => h 75 (35 + 3 * j + 2)) i)), .int (nI i), u3]) (st' := [.int (nI (hs_rt (fun g => h 75 (7 + 4 * g + 3)) (fun j => h 75 (35 + 3 * j + 2)) i))]) rfl ?_
    refine wp_ret rfl ?_
    have e : i = n := by omega
    subst e
    exact kk
  | succ m ih =>
    intro i u3 hi
    rcases HM.2.2.2.2.2.2.2.2 i (by omega) with e5 | ⟨j, hj, ej⟩
    · skip
      refine wp_run 2 (pc' := 6) (ls' := [.ref 74, .int (nI (hs_rt (fun g => h 75 (7 + 4 * g + 3)) (fun j => h 75 (35 + 3 * j + 2)) i)), .int (nI i), u3]) (st' := [.ref 74, .int (nI i)]) rfl ?_
      refine wp_getr 75 rfl rfl rfl ?_
      refine wp_run 1 (pc' := 10) (ls' := [.ref 74, .int (nI (hs_rt (fun g => h 75 (7 + 4 * g + 3)) (fun j => h 75 (35 + 3 * j + 2)) i)), .int (nI i), u3]) (st' := [.int 2, .ref 75, .int (nI i)]) rfl ?_
      refine wp_ald (i := 2) (nI n) hm2 rfl rfl rfl (by decide) rfl ?_
      refine wp_icmp_f rfl (show ¬ ((nI n) ≤ (nI i)) from mt (nI_leI (a := n) (b := i) (by omega) (by omega)).mp (by omega)) ?_
      refine wp_run 3 (pc' := 17) (ls' := [.ref 74, .int (nI (hs_rt (fun g => h 75 (7 + 4 * g + 3)) (fun j => h 75 (35 + 3 * j + 2)) i)), .int (nI i), u3]) (st' := [.int 3, .int (nI i), .ref 74]) rfl ?_
      refine wp_callV (o := 74) (as := [.int (nI i), .int 3]) (rest := []) (els := [.ref 74, .int (nI i), .int 3]) rfl rfl rfl rfl rfl rfl rfl rfl (by omega) ?_
      refine sp_about (w := 3) (-1) e5 (by omega) (by omega) ?_
      show am_wp L xs _ _ _ _ 20 [.ref 74, .int (nI (hs_rt (fun g => h 75 (7 + 4 * g + 3)) (fun j => h 75 (35 + 3 * j + 2)) i)), .int (nI i), u3] [.int (-1)] (am_S b) h _
      refine wp_run 3 (pc' := 23) (ls' := [.ref 74, .int (nI (hs_rt (fun g => h 75 (7 + 4 * g + 3)) (fun j => h 75 (35 + 3 * j + 2)) i)), .int (nI i), .int (-1)]) (st' := [.int (-1), .int (nI (hs_rt (fun g => h 75 (7 + 4 * g + 3)) (fun j => h 75 (35 + 3 * j + 2)) i))]) rfl ?_
      refine wp_if_t rfl (show ((-1) : Int32) < 0 from by decide) ?_
      refine wp_run 5 (pc' := 4) (ls' := [.ref 74, .int ((nI (hs_rt (fun g => h 75 (7 + 4 * g + 3)) (fun j => h 75 (35 + 3 * j + 2)) i)) + 0), .int ((nI i) + 1), .int (-1)]) (st' := []) rfl ?_
      rw [show (((nI (hs_rt (fun g => h 75 (7 + 4 * g + 3)) (fun j => h 75 (35 + 3 * j + 2)) i)) + 0) : Int32) = (nI ((hs_rt (fun g => h 75 (7 + 4 * g + 3)) (fun j => h 75 (35 + 3 * j + 2)) i) + 0)) from nI_add (hs_rt (fun g => h 75 (7 + 4 * g + 3)) (fun j => h 75 (35 + 3 * j + 2)) i) 0]
      rw [show (((nI i) + 1) : Int32) = (nI (i + 1)) from nI_add i 1]
      have ih2 := ih (i + 1) (.int (-1)) (by omega)
      rw [hs_rt_0 (e := fun g => h 75 (7 + 4 * g + 3)) e5] at ih2
      exact ih2
    · skip
      refine wp_run 2 (pc' := 6) (ls' := [.ref 74, .int (nI (hs_rt (fun g => h 75 (7 + 4 * g + 3)) (fun j => h 75 (35 + 3 * j + 2)) i)), .int (nI i), u3]) (st' := [.ref 74, .int (nI i)]) rfl ?_
      refine wp_getr 75 rfl rfl rfl ?_
      refine wp_run 1 (pc' := 10) (ls' := [.ref 74, .int (nI (hs_rt (fun g => h 75 (7 + 4 * g + 3)) (fun j => h 75 (35 + 3 * j + 2)) i)), .int (nI i), u3]) (st' := [.int 2, .ref 75, .int (nI i)]) rfl ?_
      refine wp_ald (i := 2) (nI n) hm2 rfl rfl rfl (by decide) rfl ?_
      refine wp_icmp_f rfl (show ¬ ((nI n) ≤ (nI i)) from mt (nI_leI (a := n) (b := i) (by omega) (by omega)).mp (by omega)) ?_
      refine wp_run 3 (pc' := 17) (ls' := [.ref 74, .int (nI (hs_rt (fun g => h 75 (7 + 4 * g + 3)) (fun j => h 75 (35 + 3 * j + 2)) i)), .int (nI i), u3]) (st' := [.int 3, .int (nI i), .ref 74]) rfl ?_
      refine wp_callV (o := 74) (as := [.int (nI i), .int 3]) (rest := []) (els := [.ref 74, .int (nI i), .int 3]) rfl rfl rfl rfl rfl rfl rfl rfl (by omega) ?_
      refine sp_about (w := 3) (nI j) ej (by omega) (by omega) ?_
      show am_wp L xs _ _ _ _ 20 [.ref 74, .int (nI (hs_rt (fun g => h 75 (7 + 4 * g + 3)) (fun j => h 75 (35 + 3 * j + 2)) i)), .int (nI i), u3] [.int (nI j)] (am_S b) h _
      refine wp_run 3 (pc' := 23) (ls' := [.ref 74, .int (nI (hs_rt (fun g => h 75 (7 + 4 * g + 3)) (fun j => h 75 (35 + 3 * j + 2)) i)), .int (nI i), .int (nI j)]) (st' := [.int (nI j), .int (nI (hs_rt (fun g => h 75 (7 + 4 * g + 3)) (fun j => h 75 (35 + 3 * j + 2)) i))]) rfl ?_
      refine wp_if_f rfl (show ¬ ((nI j) < 0) from mt (nI_ltI (a := j) (b := 0) (by omega) (by omega)).mp (by omega)) ?_
      refine wp_run 3 (pc' := 29) (ls' := [.ref 74, .int (nI (hs_rt (fun g => h 75 (7 + 4 * g + 3)) (fun j => h 75 (35 + 3 * j + 2)) i)), .int (nI i), .int (nI j)]) (st' := [.int 2, .int (nI j), .ref 74, .int (nI (hs_rt (fun g => h 75 (7 + 4 * g + 3)) (fun j => h 75 (35 + 3 * j + 2)) i))]) rfl ?_
      refine wp_callV (o := 74) (as := [.int (nI j), .int 2]) (rest := [.int (nI (hs_rt (fun g => h 75 (7 + 4 * g + 3)) (fun j => h 75 (35 + 3 * j + 2)) i))]) (els := [.ref 74, .int (nI j), .int 2]) rfl rfl rfl rfl rfl rfl rfl rfl (by omega) ?_
      refine sp_of (w := 2) (h 75 (35 + 3 * j + 2)) rfl (by omega) (by omega) ?_
      show am_wp L xs _ _ _ _ 32 [.ref 74, .int (nI (hs_rt (fun g => h 75 (7 + 4 * g + 3)) (fun j => h 75 (35 + 3 * j + 2)) i)), .int (nI i), .int (nI j)] [.int (h 75 (35 + 3 * j + 2)), .int (nI (hs_rt (fun g => h 75 (7 + 4 * g + 3)) (fun j => h 75 (35 + 3 * j + 2)) i))] (am_S b) h _
      refine wp_run 1 (pc' := 33) (ls' := [.ref 74, .int (nI (hs_rt (fun g => h 75 (7 + 4 * g + 3)) (fun j => h 75 (35 + 3 * j + 2)) i)), .int (nI i), .int (nI j)]) (st' := [.int (nI i), .int (h 75 (35 + 3 * j + 2)), .int (nI (hs_rt (fun g => h 75 (7 + 4 * g + 3)) (fun j => h 75 (35 + 3 * j + 2)) i))]) rfl ?_
      refine wp_icmp rfl (fun (cq33 : ¬ (h 75 (35 + 3 * j + 2)) = (nI i)) => ?_) (fun (cq33 : ¬ (¬ (h 75 (35 + 3 * j + 2)) = (nI i))) => ?_)
      · skip
        refine wp_run 5 (pc' := 4) (ls' := [.ref 74, .int ((nI (hs_rt (fun g => h 75 (7 + 4 * g + 3)) (fun j => h 75 (35 + 3 * j + 2)) i)) + 0), .int ((nI i) + 1), .int (nI j)]) (st' := []) rfl ?_
        rw [show (((nI (hs_rt (fun g => h 75 (7 + 4 * g + 3)) (fun j => h 75 (35 + 3 * j + 2)) i)) + 0) : Int32) = (nI ((hs_rt (fun g => h 75 (7 + 4 * g + 3)) (fun j => h 75 (35 + 3 * j + 2)) i) + 0)) from nI_add (hs_rt (fun g => h 75 (7 + 4 * g + 3)) (fun j => h 75 (35 + 3 * j + 2)) i) 0]
        rw [show (((nI i) + 1) : Int32) = (nI (i + 1)) from nI_add i 1]
        have ih2 := ih (i + 1) (.int (nI j)) (by omega)
        rw [hs_rt_n (e := fun g => h 75 (7 + 4 * g + 3)) (u := fun j => h 75 (35 + 3 * j + 2)) ej (by omega) cq33] at ih2
        exact ih2
      · skip
        replace cq33 := Decidable.not_not.mp cq33
        refine wp_run 6 (pc' := 4) (ls' := [.ref 74, .int ((nI (hs_rt (fun g => h 75 (7 + 4 * g + 3)) (fun j => h 75 (35 + 3 * j + 2)) i)) + 1), .int ((nI i) + 1), .int (nI j)]) (st' := []) rfl ?_
        rw [show (((nI (hs_rt (fun g => h 75 (7 + 4 * g + 3)) (fun j => h 75 (35 + 3 * j + 2)) i)) + 1) : Int32) = (nI ((hs_rt (fun g => h 75 (7 + 4 * g + 3)) (fun j => h 75 (35 + 3 * j + 2)) i) + 1)) from nI_add (hs_rt (fun g => h 75 (7 + 4 * g + 3)) (fun j => h 75 (35 + 3 * j + 2)) i) 1]
        rw [show (((nI i) + 1) : Int32) = (nI (i + 1)) from nI_add i 1]
        have ih2 := ih (i + 1) (.int (nI j)) (by omega)
        rw [hs_rt_1 (e := fun g => h 75 (7 + 4 * g + 3)) (u := fun j => h 75 (35 + 3 * j + 2)) ej (by omega) cq33] at ih2
        exact ih2
theorem sp_m_right {L : Nat} {xs : Nat → Int32} {d ms b : Nat} {h : am_HI} {Q : am_Q} {n c t : Nat} {s0 s1 : Int32} {p0 p1 : List Int32} (HM : am_ms h n c t s0 s1 p0 p1) (hd : 4 ≤ d) (kk : Q (some (.int (nI (hs_rt (fun g => h 75 (7 + 4 * g + 3)) (fun j => h 75 (35 + 3 * j + 2)) n)))) (am_S b) h) :
    am_wp L xs d 0 ms 190 0 [.ref 74, am_du, am_du, am_du] [] (am_S b) h Q := by
  refine wp_run 4 (pc' := 4) (ls' := [.ref 74, .int 0, .int 0, am_du]) (st' := []) rfl ?_
  exact lp_m_right HM hd kk n 0 _ (by omega)
theorem op_right {L : Nat} {xs : Nat → Int32} {d ms b N : Nat} {h : am_HI} {Q : am_Q} (hd : 30 ≤ d) (hR : am_Rel N h) (hN : N < 100000)
    (kk : ∀ v b1 h1, (∀ ms2 Q2, (∀ b2 h2, am_Rel (N + 1) h2 → Q2 (some (.int v)) (am_S b2) h2) → am_wp L xs d 0 ms2 190 0 [.ref 74, am_du, am_du, am_du] [] (am_S b1) h1 Q2) → Q (some (.int v)) (am_S b1) h1) :
    am_wp L xs d 0 ms 89 0 [.ref 0, am_du, am_du] [] (am_S b) h Q := by
  obtain ⟨⟨n, c, t, tp, wt, s0, s1, p0, p1, H⟩, hI, hE, hS0, hS1, hS2, hS3, hT⟩ := id hR
  have hn := H.1.1
  have hm2 := H.1.2.1
  have hn7 := H.1.2.2
  have hc := H.2.1.1
  have hm3 := H.2.1.2.1
  have hc7 := H.2.1.2.2
  have ht := H.2.2.1.1
  have hm0 := H.2.2.1.2.1
  have ht9 := H.2.2.1.2.2
  have HS := re_hs H
  have HM := re_ms H
  refine sp_right HS (by omega) ?_
  refine kk _ _ _ (fun ms2 Q2 kk2 => ?_)
  refine sp_m_right HM (by omega) ?_
  rw [re_rt H n (Nat.le_refl n)]
  exact kk2 _ _ ⟨⟨n, c, t, tp, wt, s0, s1, p0, p1, H⟩, re_im_s hI, hE, hS0, hS1, hS2, hS3, hT⟩
