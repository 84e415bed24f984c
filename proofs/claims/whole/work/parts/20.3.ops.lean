/-! calls tied: wears, as, leaves -/
theorem op_wears {L : Nat} {xs : Nat → Int32} {d ms b N : Nat} {h : am_HI} {Q : am_Q} {x1 : Int32} {x2 : Int32} (hd : 30 ≤ d) (hR : am_Rel N h) (hN : N < 100000)
    (kk : ∀ v b1 h1, (∀ ms2 Q2, (∀ b2 h2, am_Rel (N + 1) h2 → Q2 (some (.int v)) (am_S b2) h2) → am_wp L xs d 0 ms2 157 0 [.ref 74, .int x1, .int x2, am_du] [] (am_S b1) h1 Q2) → Q (some (.int v)) (am_S b1) h1) :
    am_wp L xs d 0 ms 39 0 [.ref 0, .int x1, .int x2, am_du, am_du] [] (am_S b) h Q := by
  obtain ⟨⟨n, c, t, tp, wt, s0, s1, p0, p1, H⟩, hI, hE, hS0, hS1, hS2, hS3, hT⟩ := id hR
  have hn := H.1.1
  have hm2 := H.1.2.1
  have hn7 := H.1.2.2
  have hc := H.2.1.1
  have hm3 := H.2.1.2.1
  have hc7 := H.2.1.2.2
  have ht := H.2.2.1.1
  have hm0 := H.2.2.1.2.1
  have ht9 := H.2.2.1.2.2
  have HS := re_hs H
  have HM := re_ms H
  refine wp_run 1 (pc' := 1) (ls' := [.ref 0, .int x1, .int x2, am_du, am_du]) (st' := [.ref 0]) rfl ?_
  refine wp_getr 1 rfl rfl rfl ?_
  refine wp_run 1 (pc' := 5) (ls' := [.ref 0, .int x1, .int x2, am_du, am_du]) (st' := [.int x1, .ref 1]) rfl ?_
  refine wp_callV (o := 1) (as := [.int x1]) (rest := []) (els := [.ref 1, .int x1]) rfl rfl rfl rfl rfl rfl rfl rfl (by omega) ?_
  refine sp_hasGuest hn hn7 (by omega) ?_ ?_
  · skip
    intro kx1 hkx1 ex1
    subst ex1
    show am_wp L xs _ _ _ _ 8 [.ref 0, .int (nI kx1), .int x2, am_du, am_du] [.int 1] (am_S b) h _
    refine wp_if_f rfl (show ¬ ((1 : Int32) = 0) from by decide) ?_
    refine wp_run 1 (pc' := 12) (ls' := [.ref 0, .int (nI kx1), .int x2, am_du, am_du]) (st' := [.ref 0]) rfl ?_
    refine wp_getr 1 rfl rfl rfl ?_
    refine wp_run 1 (pc' := 16) (ls' := [.ref 0, .int (nI kx1), .int x2, am_du, am_du]) (st' := [.int x2, .ref 1]) rfl ?_
    refine wp_callV (o := 1) (as := [.int x2]) (rest := []) (els := [.ref 1, .int x2]) rfl rfl rfl rfl rfl rfl rfl rfl (by omega) ?_
    refine sp_hasCoatOrNone hc hc7 (by omega) ?_ ?_ ?_
    · skip
      intro ex2
      subst ex2
      show am_wp L xs _ _ _ _ 19 [.ref 0, .int (nI kx1), .int (-1), am_du, am_du] [.int 1] (am_S b) h _
      refine wp_if_t rfl (show ¬ (1 : Int32) = 0 from by decide) ?_
      refine wp_run 1 (pc' := 29) (ls' := [.ref 0, .int (nI kx1), .int (-1), am_du, am_du]) (st' := [.ref 0]) rfl ?_
      refine wp_getr 1 rfl rfl rfl ?_
      refine wp_run 1 (pc' := 33) (ls' := [.ref 0, .int (nI kx1), .int (-1), am_du, am_du]) (st' := [.int (-1), .ref 1]) rfl ?_
      refine wp_callV (o := 1) (as := [.int (-1)]) (rest := []) (els := [.ref 1, .int (-1), am_du]) rfl rfl rfl rfl rfl rfl rfl rfl (by omega) ?_
      refine sp_wearerOf (v := (-1)) hn hn7 (fun _ _ _ _ q => absurd rfl q) (fun _ => ?_)
      show am_wp L xs _ _ _ _ 36 [.ref 0, .int (nI kx1), .int (-1), am_du, am_du] [.int (-1)] (am_S b) h _
      refine wp_run 3 (pc' := 39) (ls' := [.ref 0, .int (nI kx1), .int (-1), .int (-1), am_du]) (st' := [.int (-1), .int (-1)]) rfl ?_
      refine wp_icmp_t rfl (show ((-1) : Int32) = (-1) from by decide) ?_
      refine wp_run 1 (pc' := 54) (ls' := [.ref 0, .int (nI kx1), .int (-1), .int (-1), am_du]) (st' := [.ref 0]) rfl ?_
      refine wp_getr 1 rfl rfl rfl ?_
      refine wp_getr 5 rfl rfl rfl ?_
      refine wp_run 1 (pc' := 61) (ls' := [.ref 0, .int (nI kx1), .int (-1), .int (-1), am_du]) (st' := [.int (nI kx1), .ref 5]) rfl ?_
      refine wp_ald (i := kx1) (h 5 kx1) rfl rfl rfl rfl (by omega) rfl ?_
      refine wp_run 2 (pc' := 65) (ls' := [.ref 0, .int (nI kx1), .int (-1), .int (-1), .int (h 5 kx1)]) (st' := [.ref 0]) rfl ?_
      refine wp_getr 1 rfl rfl rfl ?_
      refine wp_getr 5 rfl rfl rfl ?_
      refine wp_run 2 (pc' := 73) (ls' := [.ref 0, .int (nI kx1), .int (-1), .int (-1), .int (h 5 kx1)]) (st' := [.int (-1), .int (nI kx1), .ref 5]) rfl ?_
      refine wp_ast rfl rfl rfl (by omega) rfl ?_
      refine wp_run 1 (pc' := 76) (ls' := [.ref 0, .int (nI kx1), .int (-1), .int (-1), .int (h 5 kx1)]) (st' := [.int (h 5 kx1)]) rfl ?_
      refine wp_ret rfl ?_
      refine kk _ _ _ (fun ms2 Q2 kk2 => ?_)
      refine wp_run 2 (pc' := 2) (ls' := [.ref 74, .int (nI kx1), .int (-1), am_du]) (st' := [.int (nI kx1), .ref 74]) rfl ?_
      refine wp_callV (o := 74) (as := [.int (nI kx1)]) (rest := []) (els := [.ref 74, .int (nI kx1)]) rfl rfl rfl rfl rfl rfl rfl rfl (by omega) ?_
      refine sp_m_isGuest hm2 hn7 (by omega) (fun _ _ _ => ?_) (fun q => absurd rfl (q kx1 (by omega)))
      show am_wp L xs _ _ _ _ 5 [.ref 74, .int (nI kx1), .int (-1), am_du] [.int 1] (am_S b) (am_u h 5 kx1 (-1)) _
      refine wp_if_f rfl (show ¬ ((1 : Int32) = 0) from by decide) ?_
      refine wp_run 2 (pc' := 10) (ls' := [.ref 74, .int (nI kx1), .int (-1), am_du]) (st' := [.int (-1), .int (-1)]) rfl ?_
      refine wp_icmp_t rfl (show ((-1) : Int32) = (-1) from by decide) ?_
      refine wp_run 1 (pc' := 29) (ls' := [.ref 74, .int (nI kx1), .int (-1), am_du]) (st' := [.int (-1)]) rfl ?_
      refine wp_if_f rfl (show ¬ (0 ≤ ((-1) : Int32)) from by decide) ?_
      refine wp_run 4 (pc' := 43) (ls' := [.ref 74, .int (nI kx1), .int (-1), .int (-1)]) (st' := [.int (-1)]) rfl ?_
      refine wp_if_t rfl (show ((-1) : Int32) < 0 from by decide) ?_
      refine wp_run 9 (pc' := 70) (ls' := [.ref 74, .int (nI kx1), .int (-1), .int (-1)]) (st' := [.int (-1), .int ((7 + (4 * (nI kx1))) + 3), .ref 74]) rfl ?_
      rw [show ((4 * (nI kx1)) : Int32) = (nI (4 * kx1)) from pk_mul 4 kx1]
      rw [show ((7 + (nI (4 * kx1))) : Int32) = (nI (7 + (4 * kx1))) from nI_add 7 (4 * kx1)]
      rw [show (((nI (7 + (4 * kx1))) + 3) : Int32) = (nI ((7 + (4 * kx1)) + 3)) from nI_add (7 + (4 * kx1)) 3]
      refine wp_callV (o := 74) (as := [.int (nI ((7 + (4 * kx1)) + 3)), .int (-1)]) (rest := []) (els := [.ref 74, .int (nI ((7 + (4 * kx1)) + 3)), .int (-1), am_du]) rfl rfl rfl rfl rfl rfl rfl rfl (by omega) ?_
      refine sp_becomes (p := ((7 + (4 * kx1)) + 3)) (by omega) ?_
      rw [show (am_u h 5 kx1 (-1)) 75 ((7 + (4 * kx1)) + 3) = (h 75 ((7 + (4 * kx1)) + 3)) from (show (h 75) ((7 + (4 * kx1)) + 3) = h 75 ((7 + (4 * kx1)) + 3) from rfl)]
      show am_wp L xs _ _ _ _ 73 [.ref 74, .int (nI kx1), .int (-1), .int (-1)] [.int (h 75 ((7 + (4 * kx1)) + 3))] (am_S b) (am_u (am_u h 5 kx1 (-1)) 75 ((7 + (4 * kx1)) + 3) (-1)) _
      refine wp_ret rfl ?_
      rw [show ((h 75 ((7 + (4 * kx1)) + 3)) : Int32) = (h 5 kx1) from (re_hase H (by omega)).symm]
      have Hn : re_house n c t tp wt s0 s1 p0 p1 (h 1) (h 2) (h 3) (h 4) (upd (h 5) kx1 (-1)) (h 6) (h 7) (h 8) (h 9) (h 10) (h 11) (h 12) (h 14) (h 15) (h 16) (h 19) (h 20) (h 21) (upd (h 75) ((7 + (4 * kx1)) + 3) (-1)) := by
        refine ⟨?_, ?_, ?_, ?_, ?_, ?_, ?_, ?_, ?_, ?_, ?_, ?_⟩
        · exact ⟨(show (h 1) 10 = h 1 10 from rfl).trans H.1.1, (show (upd (h 75) ((7 + (4 * kx1)) + 3) (-1)) 2 = h 75 2 from (if_neg (by omega))).trans H.1.2.1, H.1.2.2⟩
        · exact ⟨(show (h 1) 11 = h 1 11 from rfl).trans H.2.1.1, (show (upd (h 75) ((7 + (4 * kx1)) + 3) (-1)) 3 = h 75 3 from (if_neg (by omega))).trans H.2.1.2.1, H.2.1.2.2⟩
        · exact ⟨(show (h 1) 12 = h 1 12 from rfl).trans H.2.2.1.1, (show (upd (h 75) ((7 + (4 * kx1)) + 3) (-1)) 0 = h 75 0 from (if_neg (by omega))).trans H.2.2.1.2.1, H.2.2.1.2.2⟩
        · exact ⟨(show (h 1) 13 = h 1 13 from rfl).trans (H.2.2.2.1.1.trans (show (upd (h 75) ((7 + (4 * kx1)) + 3) (-1)) 4 = h 75 4 from (if_neg (by omega))).symm), (show (h 1) 14 = h 1 14 from rfl).trans (H.2.2.2.1.2.trans (show (upd (h 75) ((7 + (4 * kx1)) + 3) (-1)) 1 = h 75 1 from (if_neg (by omega))).symm)⟩
        · exact fun g hg => (Decidable.em (g = kx1)).elim (fun e => by rw [e]; exact ⟨(show (h 2) kx1 = h 2 kx1 from rfl).trans ((H.2.2.2.2.1 kx1 (by omega)).1.trans (show (upd (h 75) ((7 + (4 * kx1)) + 3) (-1)) (7 + 4 * kx1) = h 75 (7 + 4 * kx1) from (if_neg (by omega))).symm), (show (h 3) kx1 = h 3 kx1 from rfl).trans ((H.2.2.2.2.1 kx1 (by omega)).2.1.trans (show (upd (h 75) ((7 + (4 * kx1)) + 3) (-1)) (7 + 4 * kx1 + 1) = h 75 (7 + 4 * kx1 + 1) from (if_neg (by omega))).symm), (show (h 4) kx1 = h 4 kx1 from rfl).trans ((H.2.2.2.2.1 kx1 (by omega)).2.2.1.trans (show (upd (h 75) ((7 + (4 * kx1)) + 3) (-1)) (7 + 4 * kx1 + 2) = h 75 (7 + 4 * kx1 + 2) from (if_neg (by omega))).symm), (show (upd (h 5) kx1 (-1)) kx1 = (-1) from (if_pos (by omega))).trans (show (upd (h 75) ((7 + (4 * kx1)) + 3) (-1)) (7 + 4 * kx1 + 3) = (-1) from (if_pos (by omega))).symm⟩) (fun e => ⟨(show (h 2) g = h 2 g from rfl).trans ((H.2.2.2.2.1 g hg).1.trans (show (upd (h 75) ((7 + (4 * kx1)) + 3) (-1)) (7 + 4 * g) = h 75 (7 + 4 * g) from (if_neg (by omega))).symm), (show (h 3) g = h 3 g from rfl).trans ((H.2.2.2.2.1 g hg).2.1.trans (show (upd (h 75) ((7 + (4 * kx1)) + 3) (-1)) (7 + 4 * g + 1) = h 75 (7 + 4 * g + 1) from (if_neg (by omega))).symm), (show (h 4) g = h 4 g from rfl).trans ((H.2.2.2.2.1 g hg).2.2.1.trans (show (upd (h 75) ((7 + (4 * kx1)) + 3) (-1)) (7 + 4 * g + 2) = h 75 (7 + 4 * g + 2) from (if_neg (by omega))).symm), (show (upd (h 5) kx1 (-1)) g = h 5 g from (if_neg (by omega))).trans ((H.2.2.2.2.1 g hg).2.2.2.trans (show (upd (h 75) ((7 + (4 * kx1)) + 3) (-1)) (7 + 4 * g + 3) = h 75 (7 + 4 * g + 3) from (if_neg (by omega))).symm)⟩)
        · exact re_g6 (m2 := (upd (h 75) ((7 + (4 * kx1)) + 3) (-1))) H.2.2.2.2.2.1 (fun i h1 h2 => (if_neg (by omega)))
        · exact fun g hg => (Decidable.em (g = kx1)).elim (fun e => by rw [e]; exact ⟨(H.2.2.2.2.2.2.1 kx1 (by omega)).1, (H.2.2.2.2.2.2.1 kx1 (by omega)).2.1, (H.2.2.2.2.2.2.1 kx1 (by omega)).2.2.1, Or.inl (show (upd (h 5) kx1 (-1)) kx1 = (-1) from (if_pos (by omega)))⟩) (fun e => by obtain ⟨a1, a2, a3, q⟩ := H.2.2.2.2.2.2.1 g hg; exact ⟨a1, a2, a3, q.elim (fun q => Or.inl ((show (upd (h 5) kx1 (-1)) g = h 5 g from (if_neg (by omega))).trans q)) (fun ⟨j, hj, q⟩ => Or.inr ⟨j, hj, (show (upd (h 5) kx1 (-1)) g = h 5 g from (if_neg (by omega))).trans q⟩)⟩)
        · exact H.2.2.2.2.2.2.2.1
        · exact ⟨(show (h 9) 1 = h 9 1 from rfl).trans H.2.2.2.2.2.2.2.2.1.1, (show (upd (h 75) ((7 + (4 * kx1)) + 3) (-1)) 5 = h 75 5 from (if_neg (by omega))).trans H.2.2.2.2.2.2.2.2.1.2.1, H.2.2.2.2.2.2.2.2.1.2.2.1, re_g9 (m2 := (upd (h 75) ((7 + (4 * kx1)) + 3) (-1))) H.2.2.2.2.2.2.2.2.1.2.2.1 H.2.2.2.2.2.2.2.2.1.2.2.2 (fun i h1 h2 => (if_neg (by omega)))⟩
        · exact ⟨(show (h 11) 1 = h 11 1 from rfl).trans H.2.2.2.2.2.2.2.2.2.1.1, (show (upd (h 75) ((7 + (4 * kx1)) + 3) (-1)) 6 = h 75 6 from (if_neg (by omega))).trans H.2.2.2.2.2.2.2.2.2.1.2.1, H.2.2.2.2.2.2.2.2.2.1.2.2.1, re_g10 (m2 := (upd (h 75) ((7 + (4 * kx1)) + 3) (-1))) H.2.2.2.2.2.2.2.2.2.1.2.2.1 H.2.2.2.2.2.2.2.2.2.1.2.2.2 (fun i h1 h2 => (if_neg (by omega)))⟩
        · exact re_law_m (m2 := (upd (h 75) ((7 + (4 * kx1)) + 3) (-1))) H.2.2.2.2.2.2.2.2.2.2.1 (fun i h1 h2 => (if_neg (by omega)))
        · exact re_law_m (m2 := (upd (h 75) ((7 + (4 * kx1)) + 3) (-1))) H.2.2.2.2.2.2.2.2.2.2.2 (fun i h1 h2 => (if_neg (by omega)))
      exact kk2 _ _ ⟨⟨n, c, t, tp, wt, s0, s1, p0, p1, Hn⟩, re_im_s hI, hE, hS0, hS1, hS2, hS3, hT⟩
    · skip
      intro kx2 hkx2 ex2
      subst ex2
      show am_wp L xs _ _ _ _ 19 [.ref 0, .int (nI kx1), .int (nI kx2), am_du, am_du] [.int 1] (am_S b) h _
      refine wp_if_t rfl (show ¬ (1 : Int32) = 0 from by decide) ?_
      refine wp_run 1 (pc' := 29) (ls' := [.ref 0, .int (nI kx1), .int (nI kx2), am_du, am_du]) (st' := [.ref 0]) rfl ?_
      refine wp_getr 1 rfl rfl rfl ?_
      refine wp_run 1 (pc' := 33) (ls' := [.ref 0, .int (nI kx1), .int (nI kx2), am_du, am_du]) (st' := [.int (nI kx2), .ref 1]) rfl ?_
      refine wp_callV (o := 1) (as := [.int (nI kx2)]) (rest := []) (els := [.ref 1, .int (nI kx2), am_du]) rfl rfl rfl rfl rfl rfl rfl rfl (by omega) ?_
      refine sp_wearerOf (v := (nI kx2)) hn hn7 ?_ ?_
      · skip
        intro w1 hw1 hq1 he1 hv1
        show am_wp L xs _ _ _ _ 36 [.ref 0, .int (nI kx1), .int (nI kx2), am_du, am_du] [.int (nI w1)] (am_S b) h _
        refine wp_run 3 (pc' := 39) (ls' := [.ref 0, .int (nI kx1), .int (nI kx2), .int (nI w1), am_du]) (st' := [.int (-1), .int (nI w1)]) rfl ?_
        refine wp_icmp_f rfl (show ¬ ((nI w1) = (-1)) from pu_ne1 (by omega)) ?_
        refine wp_run 2 (pc' := 44) (ls' := [.ref 0, .int (nI kx1), .int (nI kx2), .int (nI w1), am_du]) (st' := [.int (nI kx1), .int (nI w1)]) rfl ?_
        refine wp_icmp rfl (fun (cq44 : (nI w1) = (nI kx1)) => ?_) (fun (cq44 : ¬ ((nI w1) = (nI kx1))) => ?_)
        · skip
          have cq44n : w1 = kx1 := (nI_eq (a := w1) (b := kx1) (by omega) (by omega)).mp cq44
          refine wp_run 1 (pc' := 54) (ls' := [.ref 0, .int (nI kx1), .int (nI kx2), .int (nI w1), am_du]) (st' := [.ref 0]) rfl ?_
          refine wp_getr 1 rfl rfl rfl ?_
          refine wp_getr 5 rfl rfl rfl ?_
          refine wp_run 1 (pc' := 61) (ls' := [.ref 0, .int (nI kx1), .int (nI kx2), .int (nI w1), am_du]) (st' := [.int (nI kx1), .ref 5]) rfl ?_
          refine wp_ald (i := kx1) (h 5 kx1) rfl rfl rfl rfl (by omega) rfl ?_
          refine wp_run 2 (pc' := 65) (ls' := [.ref 0, .int (nI kx1), .int (nI kx2), .int (nI w1), .int (h 5 kx1)]) (st' := [.ref 0]) rfl ?_
          refine wp_getr 1 rfl rfl rfl ?_
          refine wp_getr 5 rfl rfl rfl ?_
          refine wp_run 2 (pc' := 73) (ls' := [.ref 0, .int (nI kx1), .int (nI kx2), .int (nI w1), .int (h 5 kx1)]) (st' := [.int (nI kx2), .int (nI kx1), .ref 5]) rfl ?_
          refine wp_ast rfl rfl rfl (by omega) rfl ?_
          refine wp_run 1 (pc' := 76) (ls' := [.ref 0, .int (nI kx1), .int (nI kx2), .int (nI w1), .int (h 5 kx1)]) (st' := [.int (h 5 kx1)]) rfl ?_
          refine wp_ret rfl ?_
          refine kk _ _ _ (fun ms2 Q2 kk2 => ?_)
          refine wp_run 2 (pc' := 2) (ls' := [.ref 74, .int (nI kx1), .int (nI kx2), am_du]) (st' := [.int (nI kx1), .ref 74]) rfl ?_
          refine wp_callV (o := 74) (as := [.int (nI kx1)]) (rest := []) (els := [.ref 74, .int (nI kx1)]) rfl rfl rfl rfl rfl rfl rfl rfl (by omega) ?_
          refine sp_m_isGuest hm2 hn7 (by omega) (fun _ _ _ => ?_) (fun q => absurd rfl (q kx1 (by omega)))
          show am_wp L xs _ _ _ _ 5 [.ref 74, .int (nI kx1), .int (nI kx2), am_du] [.int 1] (am_S b) (am_u h 5 kx1 (nI kx2)) _
          refine wp_if_f rfl (show ¬ ((1 : Int32) = 0) from by decide) ?_
          refine wp_run 2 (pc' := 10) (ls' := [.ref 74, .int (nI kx1), .int (nI kx2), am_du]) (st' := [.int (-1), .int (nI kx2)]) rfl ?_
          refine wp_icmp_f rfl (show ¬ ((nI kx2) = (-1)) from pu_ne1 (by omega)) ?_
          refine wp_run 2 (pc' := 15) (ls' := [.ref 74, .int (nI kx1), .int (nI kx2), am_du]) (st' := [.int (nI kx2), .ref 74]) rfl ?_
          refine wp_callV (o := 74) (as := [.int (nI kx2)]) (rest := []) (els := [.ref 74, .int (nI kx2)]) rfl rfl rfl rfl rfl rfl rfl rfl (by omega) ?_
          refine sp_m_isCoat hm3 hc7 (by omega) (fun _ _ _ => ?_) (fun q => absurd rfl (q kx2 (by omega)))
          show am_wp L xs _ _ _ _ 18 [.ref 74, .int (nI kx1), .int (nI kx2), am_du] [.int 1] (am_S b) (am_u h 5 kx1 (nI kx2)) _
          refine wp_if_t rfl (show ¬ (1 : Int32) = 0 from by decide) ?_
          refine wp_run 1 (pc' := 29) (ls' := [.ref 74, .int (nI kx1), .int (nI kx2), am_du]) (st' := [.int (nI kx2)]) rfl ?_
          refine wp_if_t rfl (show 0 ≤ (nI kx2) from (nI_leI (a := 0) (b := kx2) (by omega) (by omega)).mpr (by omega)) ?_
          refine wp_run 2 (pc' := 38) (ls' := [.ref 74, .int (nI kx1), .int (nI kx2), am_du]) (st' := [.int (nI kx2), .ref 74]) rfl ?_
          refine wp_callV (o := 74) (as := [.int (nI kx2)]) (rest := []) (els := [.ref 74, .int (nI kx2), am_du]) rfl rfl rfl rfl rfl rfl rfl rfl (by omega) ?_
          refine sp_whoWears (v := (nI kx2)) hm2 hn7 (by omega) (fun w2 hw2 hq2 he2 => ?_) (fun hf2 => absurd he1 (fun q => hf2 w1 hw1 ((re_hase H hw1).symm.trans q)))
          have ew : w1 = w2 := re_wear H hw1 hq1 he1 hw2 hq2 he2
          subst ew
          show am_wp L xs _ _ _ _ 41 [.ref 74, .int (nI kx1), .int (nI kx2), am_du] [.int (nI w1)] (am_S b) (am_u h 5 kx1 (nI kx2)) _
          refine wp_run 2 (pc' := 43) (ls' := [.ref 74, .int (nI kx1), .int (nI kx2), .int (nI w1)]) (st' := [.int (nI w1)]) rfl ?_
          refine wp_if_f rfl (show ¬ ((nI w1) < 0) from mt (nI_ltI (a := w1) (b := 0) (by omega) (by omega)).mp (by omega)) ?_
          refine wp_run 2 (pc' := 48) (ls' := [.ref 74, .int (nI kx1), .int (nI kx2), .int (nI w1)]) (st' := [.int (nI kx1), .int (nI w1)]) rfl ?_
          refine wp_icmp_t rfl (show (nI w1) = (nI kx1) from (nI_eq (a := w1) (b := kx1) (by omega) (by omega)).mpr (by omega)) ?_
          refine wp_run 9 (pc' := 70) (ls' := [.ref 74, .int (nI kx1), .int (nI kx2), .int (nI w1)]) (st' := [.int (nI kx2), .int ((7 + (4 * (nI kx1))) + 3), .ref 74]) rfl ?_
          rw [show ((4 * (nI kx1)) : Int32) = (nI (4 * kx1)) from pk_mul 4 kx1]
          rw [show ((7 + (nI (4 * kx1))) : Int32) = (nI (7 + (4 * kx1))) from nI_add 7 (4 * kx1)]
          rw [show (((nI (7 + (4 * kx1))) + 3) : Int32) = (nI ((7 + (4 * kx1)) + 3)) from nI_add (7 + (4 * kx1)) 3]
          refine wp_callV (o := 74) (as := [.int (nI ((7 + (4 * kx1)) + 3)), .int (nI kx2)]) (rest := []) (els := [.ref 74, .int (nI ((7 + (4 * kx1)) + 3)), .int (nI kx2), am_du]) rfl rfl rfl rfl rfl rfl rfl rfl (by omega) ?_
          refine sp_becomes (p := ((7 + (4 * kx1)) + 3)) (by omega) ?_
          rw [show (am_u h 5 kx1 (nI kx2)) 75 ((7 + (4 * kx1)) + 3) = (h 75 ((7 + (4 * kx1)) + 3)) from (show (h 75) ((7 + (4 * kx1)) + 3) = h 75 ((7 + (4 * kx1)) + 3) from rfl)]
          show am_wp L xs _ _ _ _ 73 [.ref 74, .int (nI kx1), .int (nI kx2), .int (nI w1)] [.int (h 75 ((7 + (4 * kx1)) + 3))] (am_S b) (am_u (am_u h 5 kx1 (nI kx2)) 75 ((7 + (4 * kx1)) + 3) (nI kx2)) _
          refine wp_ret rfl ?_
          rw [show ((h 75 ((7 + (4 * kx1)) + 3)) : Int32) = (h 5 kx1) from (re_hase H (by omega)).symm]
          have Hn : re_house n c t tp wt s0 s1 p0 p1 (h 1) (h 2) (h 3) (h 4) (upd (h 5) kx1 (nI kx2)) (h 6) (h 7) (h 8) (h 9) (h 10) (h 11) (h 12) (h 14) (h 15) (h 16) (h 19) (h 20) (h 21) (upd (h 75) ((7 + (4 * kx1)) + 3) (nI kx2)) := by
            refine ⟨?_, ?_, ?_, ?_, ?_, ?_, ?_, ?_, ?_, ?_, ?_, ?_⟩
            · exact ⟨(show (h 1) 10 = h 1 10 from rfl).trans H.1.1, (show (upd (h 75) ((7 + (4 * kx1)) + 3) (nI kx2)) 2 = h 75 2 from (if_neg (by omega))).trans H.1.2.1, H.1.2.2⟩
            · exact ⟨(show (h 1) 11 = h 1 11 from rfl).trans H.2.1.1, (show (upd (h 75) ((7 + (4 * kx1)) + 3) (nI kx2)) 3 = h 75 3 from (if_neg (by omega))).trans H.2.1.2.1, H.2.1.2.2⟩
            · exact ⟨(show (h 1) 12 = h 1 12 from rfl).trans H.2.2.1.1, (show (upd (h 75) ((7 + (4 * kx1)) + 3) (nI kx2)) 0 = h 75 0 from (if_neg (by omega))).trans H.2.2.1.2.1, H.2.2.1.2.2⟩
            · exact ⟨(show (h 1) 13 = h 1 13 from rfl).trans (H.2.2.2.1.1.trans (show (upd (h 75) ((7 + (4 * kx1)) + 3) (nI kx2)) 4 = h 75 4 from (if_neg (by omega))).symm), (show (h 1) 14 = h 1 14 from rfl).trans (H.2.2.2.1.2.trans (show (upd (h 75) ((7 + (4 * kx1)) + 3) (nI kx2)) 1 = h 75 1 from (if_neg (by omega))).symm)⟩
            · exact fun g hg => (Decidable.em (g = kx1)).elim (fun e => by rw [e]; exact ⟨(show (h 2) kx1 = h 2 kx1 from rfl).trans ((H.2.2.2.2.1 kx1 (by omega)).1.trans (show (upd (h 75) ((7 + (4 * kx1)) + 3) (nI kx2)) (7 + 4 * kx1) = h 75 (7 + 4 * kx1) from (if_neg (by omega))).symm), (show (h 3) kx1 = h 3 kx1 from rfl).trans ((H.2.2.2.2.1 kx1 (by omega)).2.1.trans (show (upd (h 75) ((7 + (4 * kx1)) + 3) (nI kx2)) (7 + 4 * kx1 + 1) = h 75 (7 + 4 * kx1 + 1) from (if_neg (by omega))).symm), (show (h 4) kx1 = h 4 kx1 from rfl).trans ((H.2.2.2.2.1 kx1 (by omega)).2.2.1.trans (show (upd (h 75) ((7 + (4 * kx1)) + 3) (nI kx2)) (7 + 4 * kx1 + 2) = h 75 (7 + 4 * kx1 + 2) from (if_neg (by omega))).symm), (show (upd (h 5) kx1 (nI kx2)) kx1 = (nI kx2) from (if_pos (by omega))).trans (show (upd (h 75) ((7 + (4 * kx1)) + 3) (nI kx2)) (7 + 4 * kx1 + 3) = (nI kx2) from (if_pos (by omega))).symm⟩) (fun e => ⟨(show (h 2) g = h 2 g from rfl).trans ((H.2.2.2.2.1 g hg).1.trans (show (upd (h 75) ((7 + (4 * kx1)) + 3) (nI kx2)) (7 + 4 * g) = h 75 (7 + 4 * g) from (if_neg (by omega))).symm), (show (h 3) g = h 3 g from rfl).trans ((H.2.2.2.2.1 g hg).2.1.trans (show (upd (h 75) ((7 + (4 * kx1)) + 3) (nI kx2)) (7 + 4 * g + 1) = h 75 (7 + 4 * g + 1) from (if_neg (by omega))).symm), (show (h 4) g = h 4 g from rfl).trans ((H.2.2.2.2.1 g hg).2.2.1.trans (show (upd (h 75) ((7 + (4 * kx1)) + 3) (nI kx2)) (7 + 4 * g + 2) = h 75 (7 + 4 * g + 2) from (if_neg (by omega))).symm), (show (upd (h 5) kx1 (nI kx2)) g = h 5 g from (if_neg (by omega))).trans ((H.2.2.2.2.1 g hg).2.2.2.trans (show (upd (h 75) ((7 + (4 * kx1)) + 3) (nI kx2)) (7 + 4 * g + 3) = h 75 (7 + 4 * g + 3) from (if_neg (by omega))).symm)⟩)
            · exact re_g6 (m2 := (upd (h 75) ((7 + (4 * kx1)) + 3) (nI kx2))) H.2.2.2.2.2.1 (fun i h1 h2 => (if_neg (by omega)))
            · exact fun g hg => (Decidable.em (g = kx1)).elim (fun e => by rw [e]; exact ⟨(H.2.2.2.2.2.2.1 kx1 (by omega)).1, (H.2.2.2.2.2.2.1 kx1 (by omega)).2.1, (H.2.2.2.2.2.2.1 kx1 (by omega)).2.2.1, Or.inr ⟨kx2, by omega, (show (upd (h 5) kx1 (nI kx2)) kx1 = (nI kx2) from (if_pos (by omega)))⟩⟩) (fun e => by obtain ⟨a1, a2, a3, q⟩ := H.2.2.2.2.2.2.1 g hg; exact ⟨a1, a2, a3, q.elim (fun q => Or.inl ((show (upd (h 5) kx1 (nI kx2)) g = h 5 g from (if_neg (by omega))).trans q)) (fun ⟨j, hj, q⟩ => Or.inr ⟨j, hj, (show (upd (h 5) kx1 (nI kx2)) g = h 5 g from (if_neg (by omega))).trans q⟩)⟩)
            · exact H.2.2.2.2.2.2.2.1
            · exact ⟨(show (h 9) 1 = h 9 1 from rfl).trans H.2.2.2.2.2.2.2.2.1.1, (show (upd (h 75) ((7 + (4 * kx1)) + 3) (nI kx2)) 5 = h 75 5 from (if_neg (by omega))).trans H.2.2.2.2.2.2.2.2.1.2.1, H.2.2.2.2.2.2.2.2.1.2.2.1, re_g9 (m2 := (upd (h 75) ((7 + (4 * kx1)) + 3) (nI kx2))) H.2.2.2.2.2.2.2.2.1.2.2.1 H.2.2.2.2.2.2.2.2.1.2.2.2 (fun i h1 h2 => (if_neg (by omega)))⟩
            · exact ⟨(show (h 11) 1 = h 11 1 from rfl).trans H.2.2.2.2.2.2.2.2.2.1.1, (show (upd (h 75) ((7 + (4 * kx1)) + 3) (nI kx2)) 6 = h 75 6 from (if_neg (by omega))).trans H.2.2.2.2.2.2.2.2.2.1.2.1, H.2.2.2.2.2.2.2.2.2.1.2.2.1, re_g10 (m2 := (upd (h 75) ((7 + (4 * kx1)) + 3) (nI kx2))) H.2.2.2.2.2.2.2.2.2.1.2.2.1 H.2.2.2.2.2.2.2.2.2.1.2.2.2 (fun i h1 h2 => (if_neg (by omega)))⟩
            · exact re_law_m (m2 := (upd (h 75) ((7 + (4 * kx1)) + 3) (nI kx2))) H.2.2.2.2.2.2.2.2.2.2.1 (fun i h1 h2 => (if_neg (by omega)))
            · exact re_law_m (m2 := (upd (h 75) ((7 + (4 * kx1)) + 3) (nI kx2))) H.2.2.2.2.2.2.2.2.2.2.2 (fun i h1 h2 => (if_neg (by omega)))
          exact kk2 _ _ ⟨⟨n, c, t, tp, wt, s0, s1, p0, p1, Hn⟩, re_im_s hI, hE, hS0, hS1, hS2, hS3, hT⟩
        · skip
          have cq44n : ¬ (w1 = kx1) := fun q => cq44 ((nI_eq (a := w1) (b := kx1) (by omega) (by omega)).mpr q)
          refine wp_run 2 (pc' := 49) (ls' := [.ref 0, .int (nI kx1), .int (nI kx2), .int (nI w1), am_du]) (st' := [.int 3, .ref 0]) rfl ?_
          refine wp_callV (o := 0) (as := [.int 3]) (rest := []) (els := [.ref 0, .int 3]) rfl rfl rfl rfl rfl rfl rfl rfl (by omega) ?_
          refine sp_refuse3 (by omega) ?_
          show am_wp L xs _ _ _ _ 52 [.ref 0, .int (nI kx1), .int (nI kx2), .int (nI w1), am_du] [.int (-1000000003)] (am_S b) (am_u h 73 3 (h 73 3 + 1)) _
          refine wp_ret rfl ?_
          refine kk _ _ _ (fun ms2 Q2 kk2 => ?_)
          refine wp_run 2 (pc' := 2) (ls' := [.ref 74, .int (nI kx1), .int (nI kx2), am_du]) (st' := [.int (nI kx1), .ref 74]) rfl ?_
          refine wp_callV (o := 74) (as := [.int (nI kx1)]) (rest := []) (els := [.ref 74, .int (nI kx1)]) rfl rfl rfl rfl rfl rfl rfl rfl (by omega) ?_
          refine sp_m_isGuest hm2 hn7 (by omega) (fun _ _ _ => ?_) (fun q => absurd rfl (q kx1 (by omega)))
          show am_wp L xs _ _ _ _ 5 [.ref 74, .int (nI kx1), .int (nI kx2), am_du] [.int 1] (am_S b) (am_u h 73 3 (h 73 3 + 1)) _
          refine wp_if_f rfl (show ¬ ((1 : Int32) = 0) from by decide) ?_
          refine wp_run 2 (pc' := 10) (ls' := [.ref 74, .int (nI kx1), .int (nI kx2), am_du]) (st' := [.int (-1), .int (nI kx2)]) rfl ?_
          refine wp_icmp_f rfl (show ¬ ((nI kx2) = (-1)) from pu_ne1 (by omega)) ?_
          refine wp_run 2 (pc' := 15) (ls' := [.ref 74, .int (nI kx1), .int (nI kx2), am_du]) (st' := [.int (nI kx2), .ref 74]) rfl ?_
          refine wp_callV (o := 74) (as := [.int (nI kx2)]) (rest := []) (els := [.ref 74, .int (nI kx2)]) rfl rfl rfl rfl rfl rfl rfl rfl (by omega) ?_
          refine sp_m_isCoat hm3 hc7 (by omega) (fun _ _ _ => ?_) (fun q => absurd rfl (q kx2 (by omega)))
          show am_wp L xs _ _ _ _ 18 [.ref 74, .int (nI kx1), .int (nI kx2), am_du] [.int 1] (am_S b) (am_u h 73 3 (h 73 3 + 1)) _
          refine wp_if_t rfl (show ¬ (1 : Int32) = 0 from by decide) ?_
          refine wp_run 1 (pc' := 29) (ls' := [.ref 74, .int (nI kx1), .int (nI kx2), am_du]) (st' := [.int (nI kx2)]) rfl ?_
          refine wp_if_t rfl (show 0 ≤ (nI kx2) from (nI_leI (a := 0) (b := kx2) (by omega) (by omega)).mpr (by omega)) ?_
          refine wp_run 2 (pc' := 38) (ls' := [.ref 74, .int (nI kx1), .int (nI kx2), am_du]) (st' := [.int (nI kx2), .ref 74]) rfl ?_
          refine wp_callV (o := 74) (as := [.int (nI kx2)]) (rest := []) (els := [.ref 74, .int (nI kx2), am_du]) rfl rfl rfl rfl rfl rfl rfl rfl (by omega) ?_
          refine sp_whoWears (v := (nI kx2)) hm2 hn7 (by omega) (fun w2 hw2 hq2 he2 => ?_) (fun hf2 => absurd he1 (fun q => hf2 w1 hw1 ((re_hase H hw1).symm.trans q)))
          have ew : w1 = w2 := re_wear H hw1 hq1 he1 hw2 hq2 he2
          subst ew
          show am_wp L xs _ _ _ _ 41 [.ref 74, .int (nI kx1), .int (nI kx2), am_du] [.int (nI w1)] (am_S b) (am_u h 73 3 (h 73 3 + 1)) _
          refine wp_run 2 (pc' := 43) (ls' := [.ref 74, .int (nI kx1), .int (nI kx2), .int (nI w1)]) (st' := [.int (nI w1)]) rfl ?_
          refine wp_if_f rfl (show ¬ ((nI w1) < 0) from mt (nI_ltI (a := w1) (b := 0) (by omega) (by omega)).mp (by omega)) ?_
          refine wp_run 2 (pc' := 48) (ls' := [.ref 74, .int (nI kx1), .int (nI kx2), .int (nI w1)]) (st' := [.int (nI kx1), .int (nI w1)]) rfl ?_
          refine wp_icmp_f rfl (show ¬ ((nI w1) = (nI kx1)) from mt (nI_eq (a := w1) (b := kx1) (by omega) (by omega)).mp (by omega)) ?_
          refine wp_run 2 (pc' := 54) (ls' := [.ref 74, .int (nI kx1), .int (nI kx2), .int (nI w1)]) (st' := [.int (-1000000003), .ref 74]) rfl ?_
          refine wp_callV (o := 74) (as := [.int (-1000000003)]) (rest := []) (els := [.ref 74, .int (-1000000003)]) rfl rfl rfl rfl rfl rfl rfl rfl (by omega) ?_
          refine sp_error3 ?_
          show am_wp L xs _ _ _ _ 57 [.ref 74, .int (nI kx1), .int (nI kx2), .int (nI w1)] [.int (-1000000003)] (am_S b) (am_u (am_u h 73 3 (h 73 3 + 1)) 77 3 ((am_u h 73 3 (h 73 3 + 1)) 77 3 + 1)) _
          refine wp_run 1 (pc' := 73) (ls' := [.ref 74, .int (nI kx1), .int (nI kx2), .int (nI w1)]) (st' := [.int (-1000000003)]) rfl ?_
          refine wp_ret rfl ?_
          exact kk2 _ _ (re_err3 hR)
      · skip
        intro hf1
        show am_wp L xs _ _ _ _ 36 [.ref 0, .int (nI kx1), .int (nI kx2), am_du, am_du] [.int (-1)] (am_S b) h _
        refine wp_run 3 (pc' := 39) (ls' := [.ref 0, .int (nI kx1), .int (nI kx2), .int (-1), am_du]) (st' := [.int (-1), .int (-1)]) rfl ?_
        refine wp_icmp_t rfl (show ((-1) : Int32) = (-1) from by decide) ?_
        refine wp_run 1 (pc' := 54) (ls' := [.ref 0, .int (nI kx1), .int (nI kx2), .int (-1), am_du]) (st' := [.ref 0]) rfl ?_
        refine wp_getr 1 rfl rfl rfl ?_
        refine wp_getr 5 rfl rfl rfl ?_
        refine wp_run 1 (pc' := 61) (ls' := [.ref 0, .int (nI kx1), .int (nI kx2), .int (-1), am_du]) (st' := [.int (nI kx1), .ref 5]) rfl ?_
        refine wp_ald (i := kx1) (h 5 kx1) rfl rfl rfl rfl (by omega) rfl ?_
        refine wp_run 2 (pc' := 65) (ls' := [.ref 0, .int (nI kx1), .int (nI kx2), .int (-1), .int (h 5 kx1)]) (st' := [.ref 0]) rfl ?_
        refine wp_getr 1 rfl rfl rfl ?_
        refine wp_getr 5 rfl rfl rfl ?_
        refine wp_run 2 (pc' := 73) (ls' := [.ref 0, .int (nI kx1), .int (nI kx2), .int (-1), .int (h 5 kx1)]) (st' := [.int (nI kx2), .int (nI kx1), .ref 5]) rfl ?_
        refine wp_ast rfl rfl rfl (by omega) rfl ?_
        refine wp_run 1 (pc' := 76) (ls' := [.ref 0, .int (nI kx1), .int (nI kx2), .int (-1), .int (h 5 kx1)]) (st' := [.int (h 5 kx1)]) rfl ?_
        refine wp_ret rfl ?_
        refine kk _ _ _ (fun ms2 Q2 kk2 => ?_)
        refine wp_run 2 (pc' := 2) (ls' := [.ref 74, .int (nI kx1), .int (nI kx2), am_du]) (st' := [.int (nI kx1), .ref 74]) rfl ?_
        refine wp_callV (o := 74) (as := [.int (nI kx1)]) (rest := []) (els := [.ref 74, .int (nI kx1)]) rfl rfl rfl rfl rfl rfl rfl rfl (by omega) ?_
        refine sp_m_isGuest hm2 hn7 (by omega) (fun _ _ _ => ?_) (fun q => absurd rfl (q kx1 (by omega)))
        show am_wp L xs _ _ _ _ 5 [.ref 74, .int (nI kx1), .int (nI kx2), am_du] [.int 1] (am_S b) (am_u h 5 kx1 (nI kx2)) _
        refine wp_if_f rfl (show ¬ ((1 : Int32) = 0) from by decide) ?_
        refine wp_run 2 (pc' := 10) (ls' := [.ref 74, .int (nI kx1), .int (nI kx2), am_du]) (st' := [.int (-1), .int (nI kx2)]) rfl ?_
        refine wp_icmp_f rfl (show ¬ ((nI kx2) = (-1)) from pu_ne1 (by omega)) ?_
        refine wp_run 2 (pc' := 15) (ls' := [.ref 74, .int (nI kx1), .int (nI kx2), am_du]) (st' := [.int (nI kx2), .ref 74]) rfl ?_
        refine wp_callV (o := 74) (as := [.int (nI kx2)]) (rest := []) (els := [.ref 74, .int (nI kx2)]) rfl rfl rfl rfl rfl rfl rfl rfl (by omega) ?_
        refine sp_m_isCoat hm3 hc7 (by omega) (fun _ _ _ => ?_) (fun q => absurd rfl (q kx2 (by omega)))
        show am_wp L xs _ _ _ _ 18 [.ref 74, .int (nI kx1), .int (nI kx2), am_du] [.int 1] (am_S b) (am_u h 5 kx1 (nI kx2)) _
        refine wp_if_t rfl (show ¬ (1 : Int32) = 0 from by decide) ?_
        refine wp_run 1 (pc' := 29) (ls' := [.ref 74, .int (nI kx1), .int (nI kx2), am_du]) (st' := [.int (nI kx2)]) rfl ?_
        refine wp_if_t rfl (show 0 ≤ (nI kx2) from (nI_leI (a := 0) (b := kx2) (by omega) (by omega)).mpr (by omega)) ?_
        refine wp_run 2 (pc' := 38) (ls' := [.ref 74, .int (nI kx1), .int (nI kx2), am_du]) (st' := [.int (nI kx2), .ref 74]) rfl ?_
        refine wp_callV (o := 74) (as := [.int (nI kx2)]) (rest := []) (els := [.ref 74, .int (nI kx2), am_du]) rfl rfl rfl rfl rfl rfl rfl rfl (by omega) ?_
        refine sp_whoWears (v := (nI kx2)) hm2 hn7 (by omega) (fun w2 hw2 hq2 he2 => hf1.elim (fun q => absurd q (pu_ne1 (by omega))) (fun q => absurd ((re_hase H hw2).trans he2) (q w2 hw2))) (fun hf2 => ?_)
        show am_wp L xs _ _ _ _ 41 [.ref 74, .int (nI kx1), .int (nI kx2), am_du] [.int (-1)] (am_S b) (am_u h 5 kx1 (nI kx2)) _
        refine wp_run 2 (pc' := 43) (ls' := [.ref 74, .int (nI kx1), .int (nI kx2), .int (-1)]) (st' := [.int (-1)]) rfl ?_
        refine wp_if_t rfl (show ((-1) : Int32) < 0 from by decide) ?_
        refine wp_run 9 (pc' := 70) (ls' := [.ref 74, .int (nI kx1), .int (nI kx2), .int (-1)]) (st' := [.int (nI kx2), .int ((7 + (4 * (nI kx1))) + 3), .ref 74]) rfl ?_
        rw [show ((4 * (nI kx1)) : Int32) = (nI (4 * kx1)) from pk_mul 4 kx1]
        rw [show ((7 + (nI (4 * kx1))) : Int32) = (nI (7 + (4 * kx1))) from nI_add 7 (4 * kx1)]
        rw [show (((nI (7 + (4 * kx1))) + 3) : Int32) = (nI ((7 + (4 * kx1)) + 3)) from nI_add (7 + (4 * kx1)) 3]
        refine wp_callV (o := 74) (as := [.int (nI ((7 + (4 * kx1)) + 3)), .int (nI kx2)]) (rest := []) (els := [.ref 74, .int (nI ((7 + (4 * kx1)) + 3)), .int (nI kx2), am_du]) rfl rfl rfl rfl rfl rfl rfl rfl (by omega) ?_
        refine sp_becomes (p := ((7 + (4 * kx1)) + 3)) (by omega) ?_
        rw [show (am_u h 5 kx1 (nI kx2)) 75 ((7 + (4 * kx1)) + 3) = (h 75 ((7 + (4 * kx1)) + 3)) from (show (h 75) ((7 + (4 * kx1)) + 3) = h 75 ((7 + (4 * kx1)) + 3) from rfl)]
        show am_wp L xs _ _ _ _ 73 [.ref 74, .int (nI kx1), .int (nI kx2), .int (-1)] [.int (h 75 ((7 + (4 * kx1)) + 3))] (am_S b) (am_u (am_u h 5 kx1 (nI kx2)) 75 ((7 + (4 * kx1)) + 3) (nI kx2)) _
        refine wp_ret rfl ?_
        rw [show ((h 75 ((7 + (4 * kx1)) + 3)) : Int32) = (h 5 kx1) from (re_hase H (by omega)).symm]
        have Hn : re_house n c t tp wt s0 s1 p0 p1 (h 1) (h 2) (h 3) (h 4) (upd (h 5) kx1 (nI kx2)) (h 6) (h 7) (h 8) (h 9) (h 10) (h 11) (h 12) (h 14) (h 15) (h 16) (h 19) (h 20) (h 21) (upd (h 75) ((7 + (4 * kx1)) + 3) (nI kx2)) := by
          refine ⟨?_, ?_, ?_, ?_, ?_, ?_, ?_, ?_, ?_, ?_, ?_, ?_⟩
          · exact ⟨(show (h 1) 10 = h 1 10 from rfl).trans H.1.1, (show (upd (h 75) ((7 + (4 * kx1)) + 3) (nI kx2)) 2 = h 75 2 from (if_neg (by omega))).trans H.1.2.1, H.1.2.2⟩
          · exact ⟨(show (h 1) 11 = h 1 11 from rfl).trans H.2.1.1, (show (upd (h 75) ((7 + (4 * kx1)) + 3) (nI kx2)) 3 = h 75 3 from (if_neg (by omega))).trans H.2.1.2.1, H.2.1.2.2⟩
          · exact ⟨(show (h 1) 12 = h 1 12 from rfl).trans H.2.2.1.1, (show (upd (h 75) ((7 + (4 * kx1)) + 3) (nI kx2)) 0 = h 75 0 from (if_neg (by omega))).trans H.2.2.1.2.1, H.2.2.1.2.2⟩
          · exact ⟨(show (h 1) 13 = h 1 13 from rfl).trans (H.2.2.2.1.1.trans (show (upd (h 75) ((7 + (4 * kx1)) + 3) (nI kx2)) 4 = h 75 4 from (if_neg (by omega))).symm), (show (h 1) 14 = h 1 14 from rfl).trans (H.2.2.2.1.2.trans (show (upd (h 75) ((7 + (4 * kx1)) + 3) (nI kx2)) 1 = h 75 1 from (if_neg (by omega))).symm)⟩
          · exact fun g hg => (Decidable.em (g = kx1)).elim (fun e => by rw [e]; exact ⟨(show (h 2) kx1 = h 2 kx1 from rfl).trans ((H.2.2.2.2.1 kx1 (by omega)).1.trans (show (upd (h 75) ((7 + (4 * kx1)) + 3) (nI kx2)) (7 + 4 * kx1) = h 75 (7 + 4 * kx1) from (if_neg (by omega))).symm), (show (h 3) kx1 = h 3 kx1 from rfl).trans ((H.2.2.2.2.1 kx1 (by omega)).2.1.trans (show (upd (h 75) ((7 + (4 * kx1)) + 3) (nI kx2)) (7 + 4 * kx1 + 1) = h 75 (7 + 4 * kx1 + 1) from (if_neg (by omega))).symm), (show (h 4) kx1 = h 4 kx1 from rfl).trans ((H.2.2.2.2.1 kx1 (by omega)).2.2.1.trans (show (upd (h 75) ((7 + (4 * kx1)) + 3) (nI kx2)) (7 + 4 * kx1 + 2) = h 75 (7 + 4 * kx1 + 2) from (if_neg (by omega))).symm), (show (upd (h 5) kx1 (nI kx2)) kx1 = (nI kx2) from (if_pos (by omega))).trans (show (upd (h 75) ((7 + (4 * kx1)) + 3) (nI kx2)) (7 + 4 * kx1 + 3) = (nI kx2) from (if_pos (by omega))).symm⟩) (fun e => ⟨(show (h 2) g = h 2 g from rfl).trans ((H.2.2.2.2.1 g hg).1.trans (show (upd (h 75) ((7 + (4 * kx1)) + 3) (nI kx2)) (7 + 4 * g) = h 75 (7 + 4 * g) from (if_neg (by omega))).symm), (show (h 3) g = h 3 g from rfl).trans ((H.2.2.2.2.1 g hg).2.1.trans (show (upd (h 75) ((7 + (4 * kx1)) + 3) (nI kx2)) (7 + 4 * g + 1) = h 75 (7 + 4 * g + 1) from (if_neg (by omega))).symm), (show (h 4) g = h 4 g from rfl).trans ((H.2.2.2.2.1 g hg).2.2.1.trans (show (upd (h 75) ((7 + (4 * kx1)) + 3) (nI kx2)) (7 + 4 * g + 2) = h 75 (7 + 4 * g + 2) from (if_neg (by omega))).symm), (show (upd (h 5) kx1 (nI kx2)) g = h 5 g from (if_neg (by omega))).trans ((H.2.2.2.2.1 g hg).2.2.2.trans (show (upd (h 75) ((7 + (4 * kx1)) + 3) (nI kx2)) (7 + 4 * g + 3) = h 75 (7 + 4 * g + 3) from (if_neg (by omega))).symm)⟩)
          · exact re_g6 (m2 := (upd (h 75) ((7 + (4 * kx1)) + 3) (nI kx2))) H.2.2.2.2.2.1 (fun i h1 h2 => (if_neg (by omega)))
          · exact fun g hg => (Decidable.em (g = kx1)).elim (fun e => by rw [e]; exact ⟨(H.2.2.2.2.2.2.1 kx1 (by omega)).1, (H.2.2.2.2.2.2.1 kx1 (by omega)).2.1, (H.2.2.2.2.2.2.1 kx1 (by omega)).2.2.1, Or.inr ⟨kx2, by omega, (show (upd (h 5) kx1 (nI kx2)) kx1 = (nI kx2) from (if_pos (by omega)))⟩⟩) (fun e => by obtain ⟨a1, a2, a3, q⟩ := H.2.2.2.2.2.2.1 g hg; exact ⟨a1, a2, a3, q.elim (fun q => Or.inl ((show (upd (h 5) kx1 (nI kx2)) g = h 5 g from (if_neg (by omega))).trans q)) (fun ⟨j, hj, q⟩ => Or.inr ⟨j, hj, (show (upd (h 5) kx1 (nI kx2)) g = h 5 g from (if_neg (by omega))).trans q⟩)⟩)
          · exact H.2.2.2.2.2.2.2.1
          · exact ⟨(show (h 9) 1 = h 9 1 from rfl).trans H.2.2.2.2.2.2.2.2.1.1, (show (upd (h 75) ((7 + (4 * kx1)) + 3) (nI kx2)) 5 = h 75 5 from (if_neg (by omega))).trans H.2.2.2.2.2.2.2.2.1.2.1, H.2.2.2.2.2.2.2.2.1.2.2.1, re_g9 (m2 := (upd (h 75) ((7 + (4 * kx1)) + 3) (nI kx2))) H.2.2.2.2.2.2.2.2.1.2.2.1 H.2.2.2.2.2.2.2.2.1.2.2.2 (fun i h1 h2 => (if_neg (by omega)))⟩
          · exact ⟨(show (h 11) 1 = h 11 1 from rfl).trans H.2.2.2.2.2.2.2.2.2.1.1, (show (upd (h 75) ((7 + (4 * kx1)) + 3) (nI kx2)) 6 = h 75 6 from (if_neg (by omega))).trans H.2.2.2.2.2.2.2.2.2.1.2.1, H.2.2.2.2.2.2.2.2.2.1.2.2.1, re_g10 (m2 := (upd (h 75) ((7 + (4 * kx1)) + 3) (nI kx2))) H.2.2.2.2.2.2.2.2.2.1.2.2.1 H.2.2.2.2.2.2.2.2.2.1.2.2.2 (fun i h1 h2 => (if_neg (by omega)))⟩
          · exact re_law_m (m2 := (upd (h 75) ((7 + (4 * kx1)) + 3) (nI kx2))) H.2.2.2.2.2.2.2.2.2.2.1 (fun i h1 h2 => (if_neg (by omega)))
          · exact re_law_m (m2 := (upd (h 75) ((7 + (4 * kx1)) + 3) (nI kx2))) H.2.2.2.2.2.2.2.2.2.2.2 (fun i h1 h2 => (if_neg (by omega)))
        exact kk2 _ _ ⟨⟨n, c, t, tp, wt, s0, s1, p0, p1, Hn⟩, re_im_s hI, hE, hS0, hS1, hS2, hS3, hT⟩
    · skip
      intro hm1x2 hm2x2
      have hmx2 := And.intro hm1x2 hm2x2
      show am_wp L xs _ _ _ _ 19 [.ref 0, .int (nI kx1), .int x2, am_du, am_du] [.int 0] (am_S b) h _
      refine wp_if_f rfl (show ¬ (¬ (0 : Int32) = 0) from by decide) ?_
      refine wp_run 2 (pc' := 24) (ls' := [.ref 0, .int (nI kx1), .int x2, am_du, am_du]) (st' := [.int 1, .ref 0]) rfl ?_
      refine wp_callV (o := 0) (as := [.int 1]) (rest := []) (els := [.ref 0, .int 1]) rfl rfl rfl rfl rfl rfl rfl rfl (by omega) ?_
      refine sp_refuse1 (by omega) ?_
      show am_wp L xs _ _ _ _ 27 [.ref 0, .int (nI kx1), .int x2, am_du, am_du] [.int (-1000000001)] (am_S b) (am_u h 73 1 (h 73 1 + 1)) _
      refine wp_ret rfl ?_
      refine kk _ _ _ (fun ms2 Q2 kk2 => ?_)
      refine wp_run 2 (pc' := 2) (ls' := [.ref 74, .int (nI kx1), .int x2, am_du]) (st' := [.int (nI kx1), .ref 74]) rfl ?_
      refine wp_callV (o := 74) (as := [.int (nI kx1)]) (rest := []) (els := [.ref 74, .int (nI kx1)]) rfl rfl rfl rfl rfl rfl rfl rfl (by omega) ?_
      refine sp_m_isGuest hm2 hn7 (by omega) (fun _ _ _ => ?_) (fun q => absurd rfl (q kx1 (by omega)))
      show am_wp L xs _ _ _ _ 5 [.ref 74, .int (nI kx1), .int x2, am_du] [.int 1] (am_S b) (am_u h 73 1 (h 73 1 + 1)) _
      refine wp_if_f rfl (show ¬ ((1 : Int32) = 0) from by decide) ?_
      refine wp_run 2 (pc' := 10) (ls' := [.ref 74, .int (nI kx1), .int x2, am_du]) (st' := [.int (-1), .int x2]) rfl ?_
      refine wp_icmp_f rfl (show ¬ (x2 = (-1)) from hmx2.1) ?_
      refine wp_run 2 (pc' := 15) (ls' := [.ref 74, .int (nI kx1), .int x2, am_du]) (st' := [.int x2, .ref 74]) rfl ?_
      refine wp_callV (o := 74) (as := [.int x2]) (rest := []) (els := [.ref 74, .int x2]) rfl rfl rfl rfl rfl rfl rfl rfl (by omega) ?_
      refine sp_m_isCoat hm3 hc7 (by omega) (fun k hk e => absurd e (hmx2.2 k hk)) (fun _ => ?_)
      show am_wp L xs _ _ _ _ 18 [.ref 74, .int (nI kx1), .int x2, am_du] [.int 0] (am_S b) (am_u h 73 1 (h 73 1 + 1)) _
      refine wp_if_f rfl (show ¬ (¬ (0 : Int32) = 0) from by decide) ?_
      refine wp_run 2 (pc' := 24) (ls' := [.ref 74, .int (nI kx1), .int x2, am_du]) (st' := [.int (-1000000001), .ref 74]) rfl ?_
      refine wp_callV (o := 74) (as := [.int (-1000000001)]) (rest := []) (els := [.ref 74, .int (-1000000001)]) rfl rfl rfl rfl rfl rfl rfl rfl (by omega) ?_
      refine sp_error1 ?_
      show am_wp L xs _ _ _ _ 27 [.ref 74, .int (nI kx1), .int x2, am_du] [.int (-1000000001)] (am_S b) (am_u (am_u h 73 1 (h 73 1 + 1)) 77 1 ((am_u h 73 1 (h 73 1 + 1)) 77 1 + 1)) _
      refine wp_ret rfl ?_
      exact kk2 _ _ (re_err1 hR)
  · skip
    intro hnx1
    show am_wp L xs _ _ _ _ 8 [.ref 0, .int x1, .int x2, am_du, am_du] [.int 0] (am_S b) h _
    refine wp_if_t rfl (show (0 : Int32) = 0 from by decide) ?_
    refine wp_run 2 (pc' := 24) (ls' := [.ref 0, .int x1, .int x2, am_du, am_du]) (st' := [.int 1, .ref 0]) rfl ?_
    refine wp_callV (o := 0) (as := [.int 1]) (rest := []) (els := [.ref 0, .int 1]) rfl rfl rfl rfl rfl rfl rfl rfl (by omega) ?_
    refine sp_refuse1 (by omega) ?_
    show am_wp L xs _ _ _ _ 27 [.ref 0, .int x1, .int x2, am_du, am_du] [.int (-1000000001)] (am_S b) (am_u h 73 1 (h 73 1 + 1)) _
    refine wp_ret rfl ?_
    refine kk _ _ _ (fun ms2 Q2 kk2 => ?_)
    refine wp_run 2 (pc' := 2) (ls' := [.ref 74, .int x1, .int x2, am_du]) (st' := [.int x1, .ref 74]) rfl ?_
    refine wp_callV (o := 74) (as := [.int x1]) (rest := []) (els := [.ref 74, .int x1]) rfl rfl rfl rfl rfl rfl rfl rfl (by omega) ?_
    refine sp_m_isGuest hm2 hn7 (by omega) (fun k hk e => absurd e (hnx1 k hk)) (fun _ => ?_)
    show am_wp L xs _ _ _ _ 5 [.ref 74, .int x1, .int x2, am_du] [.int 0] (am_S b) (am_u h 73 1 (h 73 1 + 1)) _
    refine wp_if_t rfl (show (0 : Int32) = 0 from by decide) ?_
    refine wp_run 2 (pc' := 24) (ls' := [.ref 74, .int x1, .int x2, am_du]) (st' := [.int (-1000000001), .ref 74]) rfl ?_
    refine wp_callV (o := 74) (as := [.int (-1000000001)]) (rest := []) (els := [.ref 74, .int (-1000000001)]) rfl rfl rfl rfl rfl rfl rfl rfl (by omega) ?_
    refine sp_error1 ?_
    show am_wp L xs _ _ _ _ 27 [.ref 74, .int x1, .int x2, am_du] [.int (-1000000001)] (am_S b) (am_u (am_u h 73 1 (h 73 1 + 1)) 77 1 ((am_u h 73 1 (h 73 1 + 1)) 77 1 + 1)) _
    refine wp_ret rfl ?_
    exact kk2 _ _ (re_err1 hR)
def pu_und (k w : Nat) : Prop := w = 0 ∨ w = k ∨ w = 1 ∧ k = 4 ∨ w = 2 ∧ k = 5
theorem sp_isOrIsUnder {L : Nat} {xs : Nat → Int32} {d ms : Nat} {h : am_HI} {sh : am_SH} {Q : am_Q} {k w : Nat} (hk : k < 7) (hw : w < 7) (hd : 1 ≤ d) (kt : pu_und k w → Q (some (.int 1)) sh h) (kf : ¬ pu_und k w → Q (some (.int 0)) sh h) :
    am_wp L xs d 0 ms 34 0 [.int (nI k), .int (nI w), am_du, am_du] [] sh h Q := by
  unfold pu_und at kt kf
  have hk2 : k = 0 ∨ k = 1 ∨ k = 2 ∨ k = 3 ∨ k = 4 ∨ k = 5 ∨ k = 6 := by omega
  rcases hk2 with rfl | rfl | rfl | rfl | rfl | rfl | rfl
  · skip
    refine wp_run 6 (pc' := 7) (ls' := [.int 0, .int (nI w), .int 0, .int 0]) (st' := [.int 7, .int 0]) rfl ?_
    refine wp_icmp_f rfl (show ¬ (7 ≤ (0 : Int32)) from by decide) ?_
    refine wp_run 3 (pc' := 14) (ls' := [.int 0, .int (nI w), .int 0, .int 0]) (st' := [.int 6, .int 0, .int 0]) rfl ?_
    refine wp_callS (as := [.int 0, .int 0, .int 6]) (rest := []) (els := [.int 0, .int 0, .int 6]) rfl rfl rfl rfl rfl rfl rfl rfl (by omega) ?_
    refine sp_x_within0 (m := 6) rfl rfl (fun _ _ _ => ?_) (fun q => absurd rfl (q 0 (by omega)))
    show am_wp L xs _ _ _ _ 17 [.int 0, .int (nI w), .int 0, .int 0] [.int 1] sh h _
    refine wp_if_f rfl (show ¬ ((1 : Int32) = 0) from by decide) ?_
    refine wp_run 2 (pc' := 22) (ls' := [.int 0, .int (nI w), .int 0, .int 0]) (st' := [.int (nI w), .int 0]) rfl ?_
    refine wp_icmp rfl (fun (cq22_0 : ¬ (0 : Int32) = (nI w)) => ?_) (fun (cq22_0 : ¬ (¬ (0 : Int32) = (nI w))) => ?_)
    · skip
      have cq22_0n : ¬ (0 = w) := fun q => cq22_0 ((nI_eq (a := 0) (b := w) (by omega) (by omega)).mpr q)
      refine wp_gets rfl ?_
      refine wp_run 1 (pc' := 31) (ls' := [.int 0, .int (nI w), .int 0, .int 0]) (st' := [.int 0, .ref 1001]) rfl ?_
      refine wp_ald1 (-1) rfl rfl rfl (by decide) ?_
      refine wp_run 5 (pc' := 7) (ls' := [.int 0, .int (nI w), .int (-1), .int (0 + 1)]) (st' := [.int 7, .int (0 + 1)]) rfl ?_
      rw [show ((0 + 1) : Int32) = 1 from by decide]
      refine wp_icmp_f rfl (show ¬ (7 ≤ (1 : Int32)) from by decide) ?_
      refine wp_run 3 (pc' := 14) (ls' := [.int 0, .int (nI w), .int (-1), .int 1]) (st' := [.int 6, .int 0, .int (-1)]) rfl ?_
      refine wp_callS (as := [.int (-1), .int 0, .int 6]) (rest := []) (els := [.int (-1), .int 0, .int 6]) rfl rfl rfl rfl rfl rfl rfl rfl (by omega) ?_
      refine sp_x_within0 (m := 6) rfl rfl (fun k hk e => absurd e.symm (pu_ne1 (by omega))) (fun _ => ?_)
      show am_wp L xs _ _ _ _ 17 [.int 0, .int (nI w), .int (-1), .int 1] [.int 0] sh h _
      refine wp_if_t rfl (show (0 : Int32) = 0 from by decide) ?_
      refine wp_run 1 (pc' := 40) (ls' := [.int 0, .int (nI w), .int (-1), .int 1]) (st' := [.int 0]) rfl ?_
      refine wp_retz rfl (Or.inl rfl) ?_
      exact kf (by omega)
    · skip
      replace cq22_0 := Decidable.not_not.mp cq22_0
      have cq22_0n : 0 = w := (nI_eq (a := 0) (b := w) (by omega) (by omega)).mp cq22_0
      refine wp_run 1 (pc' := 26) (ls' := [.int 0, .int (nI w), .int 0, .int 0]) (st' := [.int 1]) rfl ?_
      refine wp_retz rfl (Or.inr rfl) ?_
      exact kt (by omega)
  · skip
    refine wp_run 6 (pc' := 7) (ls' := [.int 1, .int (nI w), .int 1, .int 0]) (st' := [.int 7, .int 0]) rfl ?_
    refine wp_icmp_f rfl (show ¬ (7 ≤ (0 : Int32)) from by decide) ?_
    refine wp_run 3 (pc' := 14) (ls' := [.int 1, .int (nI w), .int 1, .int 0]) (st' := [.int 6, .int 0, .int 1]) rfl ?_
    refine wp_callS (as := [.int 1, .int 0, .int 6]) (rest := []) (els := [.int 1, .int 0, .int 6]) rfl rfl rfl rfl rfl rfl rfl rfl (by omega) ?_
    refine sp_x_within0 (m := 6) rfl rfl (fun _ _ _ => ?_) (fun q => absurd rfl (q 1 (by omega)))
    show am_wp L xs _ _ _ _ 17 [.int 1, .int (nI w), .int 1, .int 0] [.int 1] sh h _
    refine wp_if_f rfl (show ¬ ((1 : Int32) = 0) from by decide) ?_
    refine wp_run 2 (pc' := 22) (ls' := [.int 1, .int (nI w), .int 1, .int 0]) (st' := [.int (nI w), .int 1]) rfl ?_
    refine wp_icmp rfl (fun (cq22_1 : ¬ (1 : Int32) = (nI w)) => ?_) (fun (cq22_1 : ¬ (¬ (1 : Int32) = (nI w))) => ?_)
    · skip
      have cq22_1n : ¬ (1 = w) := fun q => cq22_1 ((nI_eq (a := 1) (b := w) (by omega) (by omega)).mpr q)
      refine wp_gets rfl ?_
      refine wp_run 1 (pc' := 31) (ls' := [.int 1, .int (nI w), .int 1, .int 0]) (st' := [.int 1, .ref 1001]) rfl ?_
      refine wp_ald1 0 rfl rfl rfl (by decide) ?_
      refine wp_run 5 (pc' := 7) (ls' := [.int 1, .int (nI w), .int 0, .int (0 + 1)]) (st' := [.int 7, .int (0 + 1)]) rfl ?_
      rw [show ((0 + 1) : Int32) = 1 from by decide]
      refine wp_icmp_f rfl (show ¬ (7 ≤ (1 : Int32)) from by decide) ?_
      refine wp_run 3 (pc' := 14) (ls' := [.int 1, .int (nI w), .int 0, .int 1]) (st' := [.int 6, .int 0, .int 0]) rfl ?_
      refine wp_callS (as := [.int 0, .int 0, .int 6]) (rest := []) (els := [.int 0, .int 0, .int 6]) rfl rfl rfl rfl rfl rfl rfl rfl (by omega) ?_
      refine sp_x_within0 (m := 6) rfl rfl (fun _ _ _ => ?_) (fun q => absurd rfl (q 0 (by omega)))
      show am_wp L xs _ _ _ _ 17 [.int 1, .int (nI w), .int 0, .int 1] [.int 1] sh h _
      refine wp_if_f rfl (show ¬ ((1 : Int32) = 0) from by decide) ?_
      refine wp_run 2 (pc' := 22) (ls' := [.int 1, .int (nI w), .int 0, .int 1]) (st' := [.int (nI w), .int 0]) rfl ?_
      refine wp_icmp rfl (fun (cq22_0 : ¬ (0 : Int32) = (nI w)) => ?_) (fun (cq22_0 : ¬ (¬ (0 : Int32) = (nI w))) => ?_)
      · skip
        have cq22_0n : ¬ (0 = w) := fun q => cq22_0 ((nI_eq (a := 0) (b := w) (by omega) (by omega)).mpr q)
        refine wp_gets rfl ?_
        refine wp_run 1 (pc' := 31) (ls' := [.int 1, .int (nI w), .int 0, .int 1]) (st' := [.int 0, .ref 1001]) rfl ?_
        refine wp_ald1 (-1) rfl rfl rfl (by decide) ?_
        refine wp_run 5 (pc' := 7) (ls' := [.int 1, .int (nI w), .int (-1), .int (1 + 1)]) (st' := [.int 7, .int (1 + 1)]) rfl ?_
        rw [show ((1 + 1) : Int32) = 2 from by decide]
        refine wp_icmp_f rfl (show ¬ (7 ≤ (2 : Int32)) from by decide) ?_
        refine wp_run 3 (pc' := 14) (ls' := [.int 1, .int (nI w), .int (-1), .int 2]) (st' := [.int 6, .int 0, .int (-1)]) rfl ?_
        refine wp_callS (as := [.int (-1), .int 0, .int 6]) (rest := []) (els := [.int (-1), .int 0, .int 6]) rfl rfl rfl rfl rfl rfl rfl rfl (by omega) ?_
        refine sp_x_within0 (m := 6) rfl rfl (fun k hk e => absurd e.symm (pu_ne1 (by omega))) (fun _ => ?_)
        show am_wp L xs _ _ _ _ 17 [.int 1, .int (nI w), .int (-1), .int 2] [.int 0] sh h _
        refine wp_if_t rfl (show (0 : Int32) = 0 from by decide) ?_
        refine wp_run 1 (pc' := 40) (ls' := [.int 1, .int (nI w), .int (-1), .int 2]) (st' := [.int 0]) rfl ?_
        refine wp_retz rfl (Or.inl rfl) ?_
        exact kf (by omega)
      · skip
        replace cq22_0 := Decidable.not_not.mp cq22_0
        have cq22_0n : 0 = w := (nI_eq (a := 0) (b := w) (by omega) (by omega)).mp cq22_0
        refine wp_run 1 (pc' := 26) (ls' := [.int 1, .int (nI w), .int 0, .int 1]) (st' := [.int 1]) rfl ?_
        refine wp_retz rfl (Or.inr rfl) ?_
        exact kt (by omega)
    · skip
      replace cq22_1 := Decidable.not_not.mp cq22_1
      have cq22_1n : 1 = w := (nI_eq (a := 1) (b := w) (by omega) (by omega)).mp cq22_1
      refine wp_run 1 (pc' := 26) (ls' := [.int 1, .int (nI w), .int 1, .int 0]) (st' := [.int 1]) rfl ?_
      refine wp_retz rfl (Or.inr rfl) ?_
      exact kt (by omega)
  · skip
    refine wp_run 6 (pc' := 7) (ls' := [.int 2, .int (nI w), .int 2, .int 0]) (st' := [.int 7, .int 0]) rfl ?_
    refine wp_icmp_f rfl (show ¬ (7 ≤ (0 : Int32)) from by decide) ?_
    refine wp_run 3 (pc' := 14) (ls' := [.int 2, .int (nI w), .int 2, .int 0]) (st' := [.int 6, .int 0, .int 2]) rfl ?_
    refine wp_callS (as := [.int 2, .int 0, .int 6]) (rest := []) (els := [.int 2, .int 0, .int 6]) rfl rfl rfl rfl rfl rfl rfl rfl (by omega) ?_
    refine sp_x_within0 (m := 6) rfl rfl (fun _ _ _ => ?_) (fun q => absurd rfl (q 2 (by omega)))
    show am_wp L xs _ _ _ _ 17 [.int 2, .int (nI w), .int 2, .int 0] [.int 1] sh h _
    refine wp_if_f rfl (show ¬ ((1 : Int32) = 0) from by decide) ?_
    refine wp_run 2 (pc' := 22) (ls' := [.int 2, .int (nI w), .int 2, .int 0]) (st' := [.int (nI w), .int 2]) rfl ?_
    refine wp_icmp rfl (fun (cq22_2 : ¬ (2 : Int32) = (nI w)) => ?_) (fun (cq22_2 : ¬ (¬ (2 : Int32) = (nI w))) => ?_)
    · skip
      have cq22_2n : ¬ (2 = w) := fun q => cq22_2 ((nI_eq (a := 2) (b := w) (by omega) (by omega)).mpr q)
      refine wp_gets rfl ?_
      refine wp_run 1 (pc' := 31) (ls' := [.int 2, .int (nI w), .int 2, .int 0]) (st' := [.int 2, .ref 1001]) rfl ?_
      refine wp_ald1 0 rfl rfl rfl (by decide) ?_
      refine wp_run 5 (pc' := 7) (ls' := [.int 2, .int (nI w), .int 0, .int (0 + 1)]) (st' := [.int 7, .int (0 + 1)]) rfl ?_
      rw [show ((0 + 1) : Int32) = 1 from by decide]
      refine wp_icmp_f rfl (show ¬ (7 ≤ (1 : Int32)) from by decide) ?_
      refine wp_run 3 (pc' := 14) (ls' := [.int 2, .int (nI w), .int 0, .int 1]) (st' := [.int 6, .int 0, .int 0]) rfl ?_
      refine wp_callS (as := [.int 0, .int 0, .int 6]) (rest := []) (els := [.int 0, .int 0, .int 6]) rfl rfl rfl rfl rfl rfl rfl rfl (by omega) ?_
      refine sp_x_within0 (m := 6) rfl rfl (fun _ _ _ => ?_) (fun q => absurd rfl (q 0 (by omega)))
      show am_wp L xs _ _ _ _ 17 [.int 2, .int (nI w), .int 0, .int 1] [.int 1] sh h _
      refine wp_if_f rfl (show ¬ ((1 : Int32) = 0) from by decide) ?_
      refine wp_run 2 (pc' := 22) (ls' := [.int 2, .int (nI w), .int 0, .int 1]) (st' := [.int (nI w), .int 0]) rfl ?_
      refine wp_icmp rfl (fun (cq22_0 : ¬ (0 : Int32) = (nI w)) => ?_) (fun (cq22_0 : ¬ (¬ (0 : Int32) = (nI w))) => ?_)
      · skip
        have cq22_0n : ¬ (0 = w) := fun q => cq22_0 ((nI_eq (a := 0) (b := w) (by omega) (by omega)).mpr q)
        refine wp_gets rfl ?_
        refine wp_run 1 (pc' := 31) (ls' := [.int 2, .int (nI w), .int 0, .int 1]) (st' := [.int 0, .ref 1001]) rfl ?_
        refine wp_ald1 (-1) rfl rfl rfl (by decide) ?_
        refine wp_run 5 (pc' := 7) (ls' := [.int 2, .int (nI w), .int (-1), .int (1 + 1)]) (st' := [.int 7, .int (1 + 1)]) rfl ?_
        rw [show ((1 + 1) : Int32) = 2 from by decide]
        refine wp_icmp_f rfl (show ¬ (7 ≤ (2 : Int32)) from by decide) ?_
        refine wp_run 3 (pc' := 14) (ls' := [.int 2, .int (nI w), .int (-1), .int 2]) (st' := [.int 6, .int 0, .int (-1)]) rfl ?_
        refine wp_callS (as := [.int (-1), .int 0, .int 6]) (rest := []) (els := [.int (-1), .int 0, .int 6]) rfl rfl rfl rfl rfl rfl rfl rfl (by omega) ?_
        refine sp_x_within0 (m := 6) rfl rfl (fun k hk e => absurd e.symm (pu_ne1 (by omega))) (fun _ => ?_)
        show am_wp L xs _ _ _ _ 17 [.int 2, .int (nI w), .int (-1), .int 2] [.int 0] sh h _
        refine wp_if_t rfl (show (0 : Int32) = 0 from by decide) ?_
        refine wp_run 1 (pc' := 40) (ls' := [.int 2, .int (nI w), .int (-1), .int 2]) (st' := [.int 0]) rfl ?_
        refine wp_retz rfl (Or.inl rfl) ?_
        exact kf (by omega)
      · skip
        replace cq22_0 := Decidable.not_not.mp cq22_0
        have cq22_0n : 0 = w := (nI_eq (a := 0) (b := w) (by omega) (by omega)).mp cq22_0
        refine wp_run 1 (pc' := 26) (ls' := [.int 2, .int (nI w), .int 0, .int 1]) (st' := [.int 1]) rfl ?_
        refine wp_retz rfl (Or.inr rfl) ?_
        exact kt (by omega)
    · skip
      replace cq22_2 := Decidable.not_not.mp cq22_2
      have cq22_2n : 2 = w := (nI_eq (a := 2) (b := w) (by omega) (by omega)).mp cq22_2
      refine wp_run 1 (pc' := 26) (ls' := [.int 2, .int (nI w), .int 2, .int 0]) (st' := [.int 1]) rfl ?_
      refine wp_retz rfl (Or.inr rfl) ?_
      exact kt (by omega)
  · skip
    refine wp_run 6 (pc' := 7) (ls' := [.int 3, .int (nI w), .int 3, .int 0]) (st' := [.int 7, .int 0]) rfl ?_
    refine wp_icmp_f rfl (show ¬ (7 ≤ (0 : Int32)) from by decide) ?_
    refine wp_run 3 (pc' := 14) (ls' := [.int 3, .int (nI w), .int 3, .int 0]) (st' := [.int 6, .int 0, .int 3]) rfl ?_
    refine wp_callS (as := [.int 3, .int 0, .int 6]) (rest := []) (els := [.int 3, .int 0, .int 6]) rfl rfl rfl rfl rfl rfl rfl rfl (by omega) ?_
    refine sp_x_within0 (m := 6) rfl rfl (fun _ _ _ => ?_) (fun q => absurd rfl (q 3 (by omega)))
    show am_wp L xs _ _ _ _ 17 [.int 3, .int (nI w), .int 3, .int 0] [.int 1] sh h _
    refine wp_if_f rfl (show ¬ ((1 : Int32) = 0) from by decide) ?_
    refine wp_run 2 (pc' := 22) (ls' := [.int 3, .int (nI w), .int 3, .int 0]) (st' := [.int (nI w), .int 3]) rfl ?_
    refine wp_icmp rfl (fun (cq22_3 : ¬ (3 : Int32) = (nI w)) => ?_) (fun (cq22_3 : ¬ (¬ (3 : Int32) = (nI w))) => ?_)
    · skip
      have cq22_3n : ¬ (3 = w) := fun q => cq22_3 ((nI_eq (a := 3) (b := w) (by omega) (by omega)).mpr q)
      refine wp_gets rfl ?_
      refine wp_run 1 (pc' := 31) (ls' := [.int 3, .int (nI w), .int 3, .int 0]) (st' := [.int 3, .ref 1001]) rfl ?_
      refine wp_ald1 0 rfl rfl rfl (by decide) ?_
      refine wp_run 5 (pc' := 7) (ls' := [.int 3, .int (nI w), .int 0, .int (0 + 1)]) (st' := [.int 7, .int (0 + 1)]) rfl ?_
      rw [show ((0 + 1) : Int32) = 1 from by decide]
      refine wp_icmp_f rfl (show ¬ (7 ≤ (1 : Int32)) from by decide) ?_
      refine wp_run 3 (pc' := 14) (ls' := [.int 3, .int (nI w), .int 0, .int 1]) (st' := [.int 6, .int 0, .int 0]) rfl ?_
      refine wp_callS (as := [.int 0, .int 0, .int 6]) (rest := []) (els := [.int 0, .int 0, .int 6]) rfl rfl rfl rfl rfl rfl rfl rfl (by omega) ?_
      refine sp_x_within0 (m := 6) rfl rfl (fun _ _ _ => ?_) (fun q => absurd rfl (q 0 (by omega)))
      show am_wp L xs _ _ _ _ 17 [.int 3, .int (nI w), .int 0, .int 1] [.int 1] sh h _
      refine wp_if_f rfl (show ¬ ((1 : Int32) = 0) from by decide) ?_
      refine wp_run 2 (pc' := 22) (ls' := [.int 3, .int (nI w), .int 0, .int 1]) (st' := [.int (nI w), .int 0]) rfl ?_
      refine wp_icmp rfl (fun (cq22_0 : ¬ (0 : Int32) = (nI w)) => ?_) (fun (cq22_0 : ¬ (¬ (0 : Int32) = (nI w))) => ?_)
      · skip
        have cq22_0n : ¬ (0 = w) := fun q => cq22_0 ((nI_eq (a := 0) (b := w) (by omega) (by omega)).mpr q)
        refine wp_gets rfl ?_
        refine wp_run 1 (pc' := 31) (ls' := [.int 3, .int (nI w), .int 0, .int 1]) (st' := [.int 0, .ref 1001]) rfl ?_
        refine wp_ald1 (-1) rfl rfl rfl (by decide) ?_
        refine wp_run 5 (pc' := 7) (ls' := [.int 3, .int (nI w), .int (-1), .int (1 + 1)]) (st' := [.int 7, .int (1 + 1)]) rfl ?_
        rw [show ((1 + 1) : Int32) = 2 from by decide]
        refine wp_icmp_f rfl (show ¬ (7 ≤ (2 : Int32)) from by decide) ?_
        refine wp_run 3 (pc' := 14) (ls' := [.int 3, .int (nI w), .int (-1), .int 2]) (st' := [.int 6, .int 0, .int (-1)]) rfl ?_
        refine wp_callS (as := [.int (-1), .int 0, .int 6]) (rest := []) (els := [.int (-1), .int 0, .int 6]) rfl rfl rfl rfl rfl rfl rfl rfl (by omega) ?_
        refine sp_x_within0 (m := 6) rfl rfl (fun k hk e => absurd e.symm (pu_ne1 (by omega))) (fun _ => ?_)
        show am_wp L xs _ _ _ _ 17 [.int 3, .int (nI w), .int (-1), .int 2] [.int 0] sh h _
        refine wp_if_t rfl (show (0 : Int32) = 0 from by decide) ?_
        refine wp_run 1 (pc' := 40) (ls' := [.int 3, .int (nI w), .int (-1), .int 2]) (st' := [.int 0]) rfl ?_
        refine wp_retz rfl (Or.inl rfl) ?_
        exact kf (by omega)
      · skip
        replace cq22_0 := Decidable.not_not.mp cq22_0
        have cq22_0n : 0 = w := (nI_eq (a := 0) (b := w) (by omega) (by omega)).mp cq22_0
        refine wp_run 1 (pc' := 26) (ls' := [.int 3, .int (nI w), .int 0, .int 1]) (st' := [.int 1]) rfl ?_
        refine wp_retz rfl (Or.inr rfl) ?_
        exact kt (by omega)
    · skip
      replace cq22_3 := Decidable.not_not.mp cq22_3
      have cq22_3n : 3 = w := (nI_eq (a := 3) (b := w) (by omega) (by omega)).mp cq22_3
      refine wp_run 1 (pc' := 26) (ls' := [.int 3, .int (nI w), .int 3, .int 0]) (st' := [.int 1]) rfl ?_
      refine wp_retz rfl (Or.inr rfl) ?_
      exact kt (by omega)
  · skip
    refine wp_run 6 (pc' := 7) (ls' := [.int 4, .int (nI w), .int 4, .int 0]) (st' := [.int 7, .int 0]) rfl ?_
    refine wp_icmp_f rfl (show ¬ (7 ≤ (0 : Int32)) from by decide) ?_
    refine wp_run 3 (pc' := 14) (ls' := [.int 4, .int (nI w), .int 4, .int 0]) (st' := [.int 6, .int 0, .int 4]) rfl ?_
    refine wp_callS (as := [.int 4, .int 0, .int 6]) (rest := []) (els := [.int 4, .int 0, .int 6]) rfl rfl rfl rfl rfl rfl rfl rfl (by omega) ?_
    refine sp_x_within0 (m := 6) rfl rfl (fun _ _ _ => ?_) (fun q => absurd rfl (q 4 (by omega)))
    show am_wp L xs _ _ _ _ 17 [.int 4, .int (nI w), .int 4, .int 0] [.int 1] sh h _
    refine wp_if_f rfl (show ¬ ((1 : Int32) = 0) from by decide) ?_
    refine wp_run 2 (pc' := 22) (ls' := [.int 4, .int (nI w), .int 4, .int 0]) (st' := [.int (nI w), .int 4]) rfl ?_
    refine wp_icmp rfl (fun (cq22_4 : ¬ (4 : Int32) = (nI w)) => ?_) (fun (cq22_4 : ¬ (¬ (4 : Int32) = (nI w))) => ?_)
    · skip
      have cq22_4n : ¬ (4 = w) := fun q => cq22_4 ((nI_eq (a := 4) (b := w) (by omega) (by omega)).mpr q)
      refine wp_gets rfl ?_
      refine wp_run 1 (pc' := 31) (ls' := [.int 4, .int (nI w), .int 4, .int 0]) (st' := [.int 4, .ref 1001]) rfl ?_
      refine wp_ald1 1 rfl rfl rfl (by decide) ?_
      refine wp_run 5 (pc' := 7) (ls' := [.int 4, .int (nI w), .int 1, .int (0 + 1)]) (st' := [.int 7, .int (0 + 1)]) rfl ?_
      rw [show ((0 + 1) : Int32) = 1 from by decide]
      refine wp_icmp_f rfl (show ¬ (7 ≤ (1 : Int32)) from by decide) ?_
      refine wp_run 3 (pc' := 14) (ls' := [.int 4, .int (nI w), .int 1, .int 1]) (st' := [.int 6, .int 0, .int 1]) rfl ?_
      refine wp_callS (as := [.int 1, .int 0, .int 6]) (rest := []) (els := [.int 1, .int 0, .int 6]) rfl rfl rfl rfl rfl rfl rfl rfl (by omega) ?_
      refine sp_x_within0 (m := 6) rfl rfl (fun _ _ _ => ?_) (fun q => absurd rfl (q 1 (by omega)))
      show am_wp L xs _ _ _ _ 17 [.int 4, .int (nI w), .int 1, .int 1] [.int 1] sh h _
      refine wp_if_f rfl (show ¬ ((1 : Int32) = 0) from by decide) ?_
      refine wp_run 2 (pc' := 22) (ls' := [.int 4, .int (nI w), .int 1, .int 1]) (st' := [.int (nI w), .int 1]) rfl ?_
      refine wp_icmp rfl (fun (cq22_1 : ¬ (1 : Int32) = (nI w)) => ?_) (fun (cq22_1 : ¬ (¬ (1 : Int32) = (nI w))) => ?_)
      · skip
        have cq22_1n : ¬ (1 = w) := fun q => cq22_1 ((nI_eq (a := 1) (b := w) (by omega) (by omega)).mpr q)
        refine wp_gets rfl ?_
        refine wp_run 1 (pc' := 31) (ls' := [.int 4, .int (nI w), .int 1, .int 1]) (st' := [.int 1, .ref 1001]) rfl ?_
        refine wp_ald1 0 rfl rfl rfl (by decide) ?_
        refine wp_run 5 (pc' := 7) (ls' := [.int 4, .int (nI w), .int 0, .int (1 + 1)]) (st' := [.int 7, .int (1 + 1)]) rfl ?_
        rw [show ((1 + 1) : Int32) = 2 from by decide]
        refine wp_icmp_f rfl (show ¬ (7 ≤ (2 : Int32)) from by decide) ?_
        refine wp_run 3 (pc' := 14) (ls' := [.int 4, .int (nI w), .int 0, .int 2]) (st' := [.int 6, .int 0, .int 0]) rfl ?_
        refine wp_callS (as := [.int 0, .int 0, .int 6]) (rest := []) (els := [.int 0, .int 0, .int 6]) rfl rfl rfl rfl rfl rfl rfl rfl (by omega) ?_
        refine sp_x_within0 (m := 6) rfl rfl (fun _ _ _ => ?_) (fun q => absurd rfl (q 0 (by omega)))
        show am_wp L xs _ _ _ _ 17 [.int 4, .int (nI w), .int 0, .int 2] [.int 1] sh h _
        refine wp_if_f rfl (show ¬ ((1 : Int32) = 0) from by decide) ?_
        refine wp_run 2 (pc' := 22) (ls' := [.int 4, .int (nI w), .int 0, .int 2]) (st' := [.int (nI w), .int 0]) rfl ?_
        refine wp_icmp rfl (fun (cq22_0 : ¬ (0 : Int32) = (nI w)) => ?_) (fun (cq22_0 : ¬ (¬ (0 : Int32) = (nI w))) => ?_)
        · skip
          have cq22_0n : ¬ (0 = w) := fun q => cq22_0 ((nI_eq (a := 0) (b := w) (by omega) (by omega)).mpr q)
          refine wp_gets rfl ?_
          refine wp_run 1 (pc' := 31) (ls' := [.int 4, .int (nI w), .int 0, .int 2]) (st' := [.int 0, .ref 1001]) rfl ?_
          refine wp_ald1 (-1) rfl rfl rfl (by decide) ?_
          refine wp_run 5 (pc' := 7) (ls' := [.int 4, .int (nI w), .int (-1), .int (2 + 1)]) (st' := [.int 7, .int (2 + 1)]) rfl ?_
          rw [show ((2 + 1) : Int32) = 3 from by decide]
          refine wp_icmp_f rfl (show ¬ (7 ≤ (3 : Int32)) from by decide) ?_
          refine wp_run 3 (pc' := 14) (ls' := [.int 4, .int (nI w), .int (-1), .int 3]) (st' := [.int 6, .int 0, .int (-1)]) rfl ?_
          refine wp_callS (as := [.int (-1), .int 0, .int 6]) (rest := []) (els := [.int (-1), .int 0, .int 6]) rfl rfl rfl rfl rfl rfl rfl rfl (by omega) ?_
          refine sp_x_within0 (m := 6) rfl rfl (fun k hk e => absurd e.symm (pu_ne1 (by omega))) (fun _ => ?_)
          show am_wp L xs _ _ _ _ 17 [.int 4, .int (nI w), .int (-1), .int 3] [.int 0] sh h _
          refine wp_if_t rfl (show (0 : Int32) = 0 from by decide) ?_
          refine wp_run 1 (pc' := 40) (ls' := [.int 4, .int (nI w), .int (-1), .int 3]) (st' := [.int 0]) rfl ?_
          refine wp_retz rfl (Or.inl rfl) ?_
          exact kf (by omega)
        · skip
          replace cq22_0 := Decidable.not_not.mp cq22_0
          have cq22_0n : 0 = w := (nI_eq (a := 0) (b := w) (by omega) (by omega)).mp cq22_0
          refine wp_run 1 (pc' := 26) (ls' := [.int 4, .int (nI w), .int 0, .int 2]) (st' := [.int 1]) rfl ?_
          refine wp_retz rfl (Or.inr rfl) ?_
          exact kt (by omega)
      · skip
        replace cq22_1 := Decidable.not_not.mp cq22_1
        have cq22_1n : 1 = w := (nI_eq (a := 1) (b := w) (by omega) (by omega)).mp cq22_1
        refine wp_run 1 (pc' := 26) (ls' := [.int 4, .int (nI w), .int 1, .int 1]) (st' := [.int 1]) rfl ?_
        refine wp_retz rfl (Or.inr rfl) ?_
        exact kt (by omega)
    · skip
      replace cq22_4 := Decidable.not_not.mp cq22_4
      have cq22_4n : 4 = w := (nI_eq (a := 4) (b := w) (by omega) (by omega)).mp cq22_4
      refine wp_run 1 (pc' := 26) (ls' := [.int 4, .int (nI w), .int 4, .int 0]) (st' := [.int 1]) rfl ?_
      refine wp_retz rfl (Or.inr rfl) ?_
      exact kt (by omega)
  · skip
    refine wp_run 6 (pc' := 7) (ls' := [.int 5, .int (nI w), .int 5, .int 0]) (st' := [.int 7, .int 0]) rfl ?_
    refine wp_icmp_f rfl (show ¬ (7 ≤ (0 : Int32)) from by decide) ?_
    refine wp_run 3 (pc' := 14) (ls' := [.int 5, .int (nI w), .int 5, .int 0]) (st' := [.int 6, .int 0, .int 5]) rfl ?_
    refine wp_callS (as := [.int 5, .int 0, .int 6]) (rest := []) (els := [.int 5, .int 0, .int 6]) rfl rfl rfl rfl rfl rfl rfl rfl (by omega) ?_
    refine sp_x_within0 (m := 6) rfl rfl (fun _ _ _ => ?_) (fun q => absurd rfl (q 5 (by omega)))
    show am_wp L xs _ _ _ _ 17 [.int 5, .int (nI w), .int 5, .int 0] [.int 1] sh h _
    refine wp_if_f rfl (show ¬ ((1 : Int32) = 0) from by decide) ?_
    refine wp_run 2 (pc' := 22) (ls' := [.int 5, .int (nI w), .int 5, .int 0]) (st' := [.int (nI w), .int 5]) rfl ?_
    refine wp_icmp rfl (fun (cq22_5 : ¬ (5 : Int32) = (nI w)) => ?_) (fun (cq22_5 : ¬ (¬ (5 : Int32) = (nI w))) => ?_)
    · skip
      have cq22_5n : ¬ (5 = w) := fun q => cq22_5 ((nI_eq (a := 5) (b := w) (by omega) (by omega)).mpr q)
      refine wp_gets rfl ?_
      refine wp_run 1 (pc' := 31) (ls' := [.int 5, .int (nI w), .int 5, .int 0]) (st' := [.int 5, .ref 1001]) rfl ?_
      refine wp_ald1 2 rfl rfl rfl (by decide) ?_
      refine wp_run 5 (pc' := 7) (ls' := [.int 5, .int (nI w), .int 2, .int (0 + 1)]) (st' := [.int 7, .int (0 + 1)]) rfl ?_
      rw [show ((0 + 1) : Int32) = 1 from by decide]
      refine wp_icmp_f rfl (show ¬ (7 ≤ (1 : Int32)) from by decide) ?_
      refine wp_run 3 (pc' := 14) (ls' := [.int 5, .int (nI w), .int 2, .int 1]) (st' := [.int 6, .int 0, .int 2]) rfl ?_
      refine wp_callS (as := [.int 2, .int 0, .int 6]) (rest := []) (els := [.int 2, .int 0, .int 6]) rfl rfl rfl rfl rfl rfl rfl rfl (by omega) ?_
      refine sp_x_within0 (m := 6) rfl rfl (fun _ _ _ => ?_) (fun q => absurd rfl (q 2 (by omega)))
      show am_wp L xs _ _ _ _ 17 [.int 5, .int (nI w), .int 2, .int 1] [.int 1] sh h _
      refine wp_if_f rfl (show ¬ ((1 : Int32) = 0) from by decide) ?_
      refine wp_run 2 (pc' := 22) (ls' := [.int 5, .int (nI w), .int 2, .int 1]) (st' := [.int (nI w), .int 2]) rfl ?_
      refine wp_icmp rfl (fun (cq22_2 : ¬ (2 : Int32) = (nI w)) => ?_) (fun (cq22_2 : ¬ (¬ (2 : Int32) = (nI w))) => ?_)
      · skip
        have cq22_2n : ¬ (2 = w) := fun q => cq22_2 ((nI_eq (a := 2) (b := w) (by omega) (by omega)).mpr q)
        refine wp_gets rfl ?_
        refine wp_run 1 (pc' := 31) (ls' := [.int 5, .int (nI w), .int 2, .int 1]) (st' := [.int 2, .ref 1001]) rfl ?_
        refine wp_ald1 0 rfl rfl rfl (by decide) ?_
        refine wp_run 5 (pc' := 7) (ls' := [.int 5, .int (nI w), .int 0, .int (1 + 1)]) (st' := [.int 7, .int (1 + 1)]) rfl ?_
        rw [show ((1 + 1) : Int32) = 2 from by decide]
        refine wp_icmp_f rfl (show ¬ (7 ≤ (2 : Int32)) from by decide) ?_
        refine wp_run 3 (pc' := 14) (ls' := [.int 5, .int (nI w), .int 0, .int 2]) (st' := [.int 6, .int 0, .int 0]) rfl ?_
        refine wp_callS (as := [.int 0, .int 0, .int 6]) (rest := []) (els := [.int 0, .int 0, .int 6]) rfl rfl rfl rfl rfl rfl rfl rfl (by omega) ?_
        refine sp_x_within0 (m := 6) rfl rfl (fun _ _ _ => ?_) (fun q => absurd rfl (q 0 (by omega)))
        show am_wp L xs _ _ _ _ 17 [.int 5, .int (nI w), .int 0, .int 2] [.int 1] sh h _
        refine wp_if_f rfl (show ¬ ((1 : Int32) = 0) from by decide) ?_
        refine wp_run 2 (pc' := 22) (ls' := [.int 5, .int (nI w), .int 0, .int 2]) (st' := [.int (nI w), .int 0]) rfl ?_
        refine wp_icmp rfl (fun (cq22_0 : ¬ (0 : Int32) = (nI w)) => ?_) (fun (cq22_0 : ¬ (¬ (0 : Int32) = (nI w))) => ?_)
        · skip
          have cq22_0n : ¬ (0 = w) := fun q => cq22_0 ((nI_eq (a := 0) (b := w) (by omega) (by omega)).mpr q)
          refine wp_gets rfl ?_
          refine wp_run 1 (pc' := 31) (ls' := [.int 5, .int (nI w), .int 0, .int 2]) (st' := [.int 0, .ref 1001]) rfl ?_
          refine wp_ald1 (-1) rfl rfl rfl (by decide) ?_
          refine wp_run 5 (pc' := 7) (ls' := [.int 5, .int (nI w), .int (-1), .int (2 + 1)]) (st' := [.int 7, .int (2 + 1)]) rfl ?_
          rw [show ((2 + 1) : Int32) = 3 from by decide]
          refine wp_icmp_f rfl (show ¬ (7 ≤ (3 : Int32)) from by decide) ?_
          refine wp_run 3 (pc' := 14) (ls' := [.int 5, .int (nI w), .int (-1), .int 3]) (st' := [.int 6, .int 0, .int (-1)]) rfl ?_
          refine wp_callS (as := [.int (-1), .int 0, .int 6]) (rest := []) (els := [.int (-1), .int 0, .int 6]) rfl rfl rfl rfl rfl rfl rfl rfl (by omega) ?_
          refine sp_x_within0 (m := 6) rfl rfl (fun k hk e => absurd e.symm (pu_ne1 (by omega))) (fun _ => ?_)
          show am_wp L xs _ _ _ _ 17 [.int 5, .int (nI w), .int (-1), .int 3] [.int 0] sh h _
          refine wp_if_t rfl (show (0 : Int32) = 0 from by decide) ?_
          refine wp_run 1 (pc' := 40) (ls' := [.int 5, .int (nI w), .int (-1), .int 3]) (st' := [.int 0]) rfl ?_
          refine wp_retz rfl (Or.inl rfl) ?_
          exact kf (by omega)
        · skip
          replace cq22_0 := Decidable.not_not.mp cq22_0
          have cq22_0n : 0 = w := (nI_eq (a := 0) (b := w) (by omega) (by omega)).mp cq22_0
          refine wp_run 1 (pc' := 26) (ls' := [.int 5, .int (nI w), .int 0, .int 2]) (st' := [.int 1]) rfl ?_
          refine wp_retz rfl (Or.inr rfl) ?_
          exact kt (by omega)
      · skip
        replace cq22_2 := Decidable.not_not.mp cq22_2
        have cq22_2n : 2 = w := (nI_eq (a := 2) (b := w) (by omega) (by omega)).mp cq22_2
        refine wp_run 1 (pc' := 26) (ls' := [.int 5, .int (nI w), .int 2, .int 1]) (st' := [.int 1]) rfl ?_
        refine wp_retz rfl (Or.inr rfl) ?_
        exact kt (by omega)
    · skip
      replace cq22_5 := Decidable.not_not.mp cq22_5
      have cq22_5n : 5 = w := (nI_eq (a := 5) (b := w) (by omega) (by omega)).mp cq22_5
      refine wp_run 1 (pc' := 26) (ls' := [.int 5, .int (nI w), .int 5, .int 0]) (st' := [.int 1]) rfl ?_
      refine wp_retz rfl (Or.inr rfl) ?_
      exact kt (by omega)
  · skip
    refine wp_run 6 (pc' := 7) (ls' := [.int 6, .int (nI w), .int 6, .int 0]) (st' := [.int 7, .int 0]) rfl ?_
    refine wp_icmp_f rfl (show ¬ (7 ≤ (0 : Int32)) from by decide) ?_
    refine wp_run 3 (pc' := 14) (ls' := [.int 6, .int (nI w), .int 6, .int 0]) (st' := [.int 6, .int 0, .int 6]) rfl ?_
    refine wp_callS (as := [.int 6, .int 0, .int 6]) (rest := []) (els := [.int 6, .int 0, .int 6]) rfl rfl rfl rfl rfl rfl rfl rfl (by omega) ?_
    refine sp_x_within0 (m := 6) rfl rfl (fun _ _ _ => ?_) (fun q => absurd rfl (q 6 (by omega)))
    show am_wp L xs _ _ _ _ 17 [.int 6, .int (nI w), .int 6, .int 0] [.int 1] sh h _
    refine wp_if_f rfl (show ¬ ((1 : Int32) = 0) from by decide) ?_
    refine wp_run 2 (pc' := 22) (ls' := [.int 6, .int (nI w), .int 6, .int 0]) (st' := [.int (nI w), .int 6]) rfl ?_
    refine wp_icmp rfl (fun (cq22_6 : ¬ (6 : Int32) = (nI w)) => ?_) (fun (cq22_6 : ¬ (¬ (6 : Int32) = (nI w))) => ?_)
    · skip
      have cq22_6n : ¬ (6 = w) := fun q => cq22_6 ((nI_eq (a := 6) (b := w) (by omega) (by omega)).mpr q)
      refine wp_gets rfl ?_
      refine wp_run 1 (pc' := 31) (ls' := [.int 6, .int (nI w), .int 6, .int 0]) (st' := [.int 6, .ref 1001]) rfl ?_
      refine wp_ald1 0 rfl rfl rfl (by decide) ?_
      refine wp_run 5 (pc' := 7) (ls' := [.int 6, .int (nI w), .int 0, .int (0 + 1)]) (st' := [.int 7, .int (0 + 1)]) rfl ?_
      rw [show ((0 + 1) : Int32) = 1 from by decide]
      refine wp_icmp_f rfl (show ¬ (7 ≤ (1 : Int32)) from by decide) ?_
      refine wp_run 3 (pc' := 14) (ls' := [.int 6, .int (nI w), .int 0, .int 1]) (st' := [.int 6, .int 0, .int 0]) rfl ?_
      refine wp_callS (as := [.int 0, .int 0, .int 6]) (rest := []) (els := [.int 0, .int 0, .int 6]) rfl rfl rfl rfl rfl rfl rfl rfl (by omega) ?_
      refine sp_x_within0 (m := 6) rfl rfl (fun _ _ _ => ?_) (fun q => absurd rfl (q 0 (by omega)))
      show am_wp L xs _ _ _ _ 17 [.int 6, .int (nI w), .int 0, .int 1] [.int 1] sh h _
      refine wp_if_f rfl (show ¬ ((1 : Int32) = 0) from by decide) ?_
      refine wp_run 2 (pc' := 22) (ls' := [.int 6, .int (nI w), .int 0, .int 1]) (st' := [.int (nI w), .int 0]) rfl ?_
      refine wp_icmp rfl (fun (cq22_0 : ¬ (0 : Int32) = (nI w)) => ?_) (fun (cq22_0 : ¬ (¬ (0 : Int32) = (nI w))) => ?_)
      · skip
        have cq22_0n : ¬ (0 = w) := fun q => cq22_0 ((nI_eq (a := 0) (b := w) (by omega) (by omega)).mpr q)
        refine wp_gets rfl ?_
        refine wp_run 1 (pc' := 31) (ls' := [.int 6, .int (nI w), .int 0, .int 1]) (st' := [.int 0, .ref 1001]) rfl ?_
        refine wp_ald1 (-1) rfl rfl rfl (by decide) ?_
        refine wp_run 5 (pc' := 7) (ls' := [.int 6, .int (nI w), .int (-1), .int (1 + 1)]) (st' := [.int 7, .int (1 + 1)]) rfl ?_
        rw [show ((1 + 1) : Int32) = 2 from by decide]
        refine wp_icmp_f rfl (show ¬ (7 ≤ (2 : Int32)) from by decide) ?_
        refine wp_run 3 (pc' := 14) (ls' := [.int 6, .int (nI w), .int (-1), .int 2]) (st' := [.int 6, .int 0, .int (-1)]) rfl ?_
        refine wp_callS (as := [.int (-1), .int 0, .int 6]) (rest := []) (els := [.int (-1), .int 0, .int 6]) rfl rfl rfl rfl rfl rfl rfl rfl (by omega) ?_
        refine sp_x_within0 (m := 6) rfl rfl (fun k hk e => absurd e.symm (pu_ne1 (by omega))) (fun _ => ?_)
        show am_wp L xs _ _ _ _ 17 [.int 6, .int (nI w), .int (-1), .int 2] [.int 0] sh h _
        refine wp_if_t rfl (show (0 : Int32) = 0 from by decide) ?_
        refine wp_run 1 (pc' := 40) (ls' := [.int 6, .int (nI w), .int (-1), .int 2]) (st' := [.int 0]) rfl ?_
        refine wp_retz rfl (Or.inl rfl) ?_
        exact kf (by omega)
      · skip
        replace cq22_0 := Decidable.not_not.mp cq22_0
        have cq22_0n : 0 = w := (nI_eq (a := 0) (b := w) (by omega) (by omega)).mp cq22_0
        refine wp_run 1 (pc' := 26) (ls' := [.int 6, .int (nI w), .int 0, .int 1]) (st' := [.int 1]) rfl ?_
        refine wp_retz rfl (Or.inr rfl) ?_
        exact kt (by omega)
    · skip
      replace cq22_6 := Decidable.not_not.mp cq22_6
      have cq22_6n : 6 = w := (nI_eq (a := 6) (b := w) (by omega) (by omega)).mp cq22_6
      refine wp_run 1 (pc' := 26) (ls' := [.int 6, .int (nI w), .int 6, .int 0]) (st' := [.int 1]) rfl ?_
      refine wp_retz rfl (Or.inr rfl) ?_
      exact kt (by omega)
theorem op_as {L : Nat} {xs : Nat → Int32} {d ms b N : Nat} {h : am_HI} {Q : am_Q} {x1 : Int32} {x2 : Int32} (hd : 30 ≤ d) (hR : am_Rel N h) (hN : N < 100000)
    (kk : ∀ v b1 h1, (∀ ms2 Q2, (∀ b2 h2, am_Rel (N + 1) h2 → Q2 (some (.int v)) (am_S b2) h2) → am_wp L xs d 0 ms2 152 0 [.ref 74, .int x1, .int x2, am_du, am_du] [] (am_S b1) h1 Q2) → Q (some (.int v)) (am_S b1) h1) :
    am_wp L xs d 0 ms 33 0 [.ref 0, .int x1, .int x2] [] (am_S b) h Q := by
  obtain ⟨⟨n, c, t, tp, wt, s0, s1, p0, p1, H⟩, hI, hE, hS0, hS1, hS2, hS3, hT⟩ := id hR
  have hn := H.1.1
  have hm2 := H.1.2.1
  have hn7 := H.1.2.2
  have hc := H.2.1.1
  have hm3 := H.2.1.2.1
  have hc7 := H.2.1.2.2
  have ht := H.2.2.1.1
  have hm0 := H.2.2.1.2.1
  have ht9 := H.2.2.1.2.2
  have HS := re_hs H
  have HM := re_ms H
  refine wp_run 1 (pc' := 1) (ls' := [.ref 0, .int x1, .int x2]) (st' := [.ref 0]) rfl ?_
  refine wp_getr 1 rfl rfl rfl ?_
  refine wp_run 1 (pc' := 5) (ls' := [.ref 0, .int x1, .int x2]) (st' := [.int x1, .ref 1]) rfl ?_
  refine wp_callV (o := 1) (as := [.int x1]) (rest := []) (els := [.ref 1, .int x1]) rfl rfl rfl rfl rfl rfl rfl rfl (by omega) ?_
  refine sp_hasCoat hc hc7 (by omega) ?_ ?_
  · skip
    intro kx1 hkx1 ex1
    subst ex1
    show am_wp L xs _ _ _ _ 8 [.ref 0, .int (nI kx1), .int x2] [.int 1] (am_S b) h _
    refine wp_if_f rfl (show ¬ ((1 : Int32) = 0) from by decide) ?_
    refine wp_run 3 (pc' := 15) (ls' := [.ref 0, .int (nI kx1), .int x2]) (st' := [.int 6, .int 0, .int x2]) rfl ?_
    refine wp_callS (as := [.int x2, .int 0, .int 6]) (rest := []) (els := [.int x2, .int 0, .int 6]) rfl rfl rfl rfl rfl rfl rfl rfl (by omega) ?_
    refine sp_x_within0 (m := 6) rfl rfl ?_ ?_
    · skip
      intro kx2 hkx2 ex2
      subst ex2
      show am_wp L xs _ _ _ _ 18 [.ref 0, .int (nI kx1), .int (nI kx2)] [.int 1] (am_S b) h _
      refine wp_if_t rfl (show ¬ (1 : Int32) = 0 from by decide) ?_
      obtain ⟨ka, hka, eka⟩ := (H.2.2.2.2.2.2.2.1 kx1 (by omega)).1
      · skip
        refine wp_run 1 (pc' := 28) (ls' := [.ref 0, .int (nI kx1), .int (nI kx2)]) (st' := [.ref 0]) rfl ?_
        refine wp_getr 1 rfl rfl rfl ?_
        refine wp_getr 6 rfl rfl rfl ?_
        refine wp_run 1 (pc' := 35) (ls' := [.ref 0, .int (nI kx1), .int (nI kx2)]) (st' := [.int (nI kx1), .ref 6]) rfl ?_
        refine wp_ald (i := kx1) (nI ka) eka rfl rfl rfl (by omega) rfl ?_
        refine wp_run 1 (pc' := 37) (ls' := [.ref 0, .int (nI kx1), .int (nI kx2)]) (st' := [.int (nI kx2), .int (nI ka)]) rfl ?_
        refine wp_callS (as := [.int (nI ka), .int (nI kx2)]) (rest := []) (els := [.int (nI ka), .int (nI kx2), am_du, am_du]) rfl rfl rfl rfl rfl rfl rfl rfl (by omega) ?_
        refine sp_isOrIsUnder (by omega) (by omega) (by omega) ?_ ?_
        · skip
          intro hund
          unfold pu_und at hund
          show am_wp L xs _ _ _ _ 40 [.ref 0, .int (nI kx1), .int (nI kx2)] [.int 1] (am_S b) h _
          refine wp_if_t rfl (show ¬ (1 : Int32) = 0 from by decide) ?_
          refine wp_run 1 (pc' := 50) (ls' := [.ref 0, .int (nI kx1), .int (nI kx2)]) (st' := [.ref 0]) rfl ?_
          refine wp_getr 1 rfl rfl rfl ?_
          refine wp_getr 7 rfl rfl rfl ?_
          refine wp_run 1 (pc' := 57) (ls' := [.ref 0, .int (nI kx1), .int (nI kx2)]) (st' := [.int (nI kx1), .ref 7]) rfl ?_
          refine wp_ald (i := kx1) (h 7 kx1) rfl rfl rfl rfl (by omega) rfl ?_
          refine wp_ret rfl ?_
          refine kk _ _ _ (fun ms2 Q2 kk2 => ?_)
          refine wp_run 2 (pc' := 2) (ls' := [.ref 74, .int (nI kx1), .int (nI kx2), am_du, am_du]) (st' := [.int (nI kx1), .ref 74]) rfl ?_
          refine wp_callV (o := 74) (as := [.int (nI kx1)]) (rest := []) (els := [.ref 74, .int (nI kx1)]) rfl rfl rfl rfl rfl rfl rfl rfl (by omega) ?_
          refine sp_m_isCoat hm3 hc7 (by omega) (fun _ _ _ => ?_) (fun q => absurd rfl (q kx1 (by omega)))
          show am_wp L xs _ _ _ _ 5 [.ref 74, .int (nI kx1), .int (nI kx2), am_du, am_du] [.int 1] (am_S b) h _
          refine wp_if_f rfl (show ¬ ((1 : Int32) = 0) from by decide) ?_
          refine wp_run 3 (pc' := 12) (ls' := [.ref 74, .int (nI kx1), .int (nI kx2), am_du, am_du]) (st' := [.int 6, .int 0, .int (nI kx2)]) rfl ?_
          refine wp_callS (as := [.int (nI kx2), .int 0, .int 6]) (rest := []) (els := [.int (nI kx2), .int 0, .int 6]) rfl rfl rfl rfl rfl rfl rfl rfl (by omega) ?_
          refine sp_m_in0 (m := 6) rfl rfl (fun _ _ _ => ?_) (fun q => absurd rfl (q kx2 (by omega)))
          show am_wp L xs _ _ _ _ 15 [.ref 74, .int (nI kx1), .int (nI kx2), am_du, am_du] [.int 1] (am_S b) h _
          refine wp_if_t rfl (show ¬ (1 : Int32) = 0 from by decide) ?_
          refine wp_run 3 (pc' := 28) (ls' := [.ref 74, .int (nI kx1), .int (nI kx2), am_du, am_du]) (st' := [.int 0, .int (nI kx1), .ref 74]) rfl ?_
          refine wp_callV (o := 74) (as := [.int (nI kx1), .int 0]) (rest := []) (els := [.ref 74, .int (nI kx1), .int 0]) rfl rfl rfl rfl rfl rfl rfl rfl (by omega) ?_
          refine sp_of (w := 0) (nI ka) ((H.2.2.2.2.2.1 kx1 (by omega)).1.symm.trans eka) (by omega) (by omega) ?_
          show am_wp L xs _ _ _ _ 31 [.ref 74, .int (nI kx1), .int (nI kx2), am_du, am_du] [.int (nI ka)] (am_S b) h _
          refine wp_run 2 (pc' := 33) (ls' := [.ref 74, .int (nI kx1), .int (nI kx2), .int (nI ka), am_du]) (st' := [.int (nI kx2)]) rfl ?_
          refine wp_if rfl (fun (cq33 : (nI kx2) = 0) => ?_) (fun (cq33 : ¬ ((nI kx2) = 0)) => ?_)
          · skip
            have cq33n : kx2 = 0 := (nI_eq (a := kx2) (b := 0) (by omega) (by omega)).mp cq33
            refine wp_run 4 (pc' := 70) (ls' := [.ref 74, .int (nI kx1), .int (nI kx2), .int (nI ka), .int 1]) (st' := [.int 1]) rfl ?_
            refine wp_if_f rfl (show ¬ ((1 : Int32) = 0) from by decide) ?_
            refine wp_run 3 (pc' := 76) (ls' := [.ref 74, .int (nI kx1), .int (nI kx2), .int (nI ka), .int 1]) (st' := [.int 1, .int (nI kx1), .ref 74]) rfl ?_
            refine wp_callV (o := 74) (as := [.int (nI kx1), .int 1]) (rest := []) (els := [.ref 74, .int (nI kx1), .int 1]) rfl rfl rfl rfl rfl rfl rfl rfl (by omega) ?_
            refine sp_of (w := 1) (h 75 (35 + 3 * kx1 + 1)) rfl (by omega) (by omega) ?_
            show am_wp L xs _ _ _ _ 79 [.ref 74, .int (nI kx1), .int (nI kx2), .int (nI ka), .int 1] [.int (h 75 (35 + 3 * kx1 + 1))] (am_S b) h _
            refine wp_run 1 (pc' := 88) (ls' := [.ref 74, .int (nI kx1), .int (nI kx2), .int (nI ka), .int 1]) (st' := [.int (h 75 (35 + 3 * kx1 + 1))]) rfl ?_
            refine wp_ret rfl ?_
            rw [show ((h 75 (35 + 3 * kx1 + 1)) : Int32) = (h 7 kx1) from (H.2.2.2.2.2.1 kx1 (by omega)).2.1.symm]
            exact kk2 _ _ ⟨⟨n, c, t, tp, wt, s0, s1, p0, p1, H⟩, re_im_s hI, hE, hS0, hS1, hS2, hS3, hT⟩
          · skip
            have cq33n : ¬ (kx2 = 0) := fun q => cq33 ((nI_eq (a := kx2) (b := 0) (by omega) (by omega)).mpr q)
            refine wp_run 2 (pc' := 38) (ls' := [.ref 74, .int (nI kx1), .int (nI kx2), .int (nI ka), am_du]) (st' := [.int (nI ka), .int (nI kx2)]) rfl ?_
            refine wp_icmp rfl (fun (cq38 : (nI kx2) = (nI ka)) => ?_) (fun (cq38 : ¬ ((nI kx2) = (nI ka))) => ?_)
            · skip
              have cq38n : kx2 = ka := (nI_eq (a := kx2) (b := ka) (by omega) (by omega)).mp cq38
              refine wp_run 4 (pc' := 70) (ls' := [.ref 74, .int (nI kx1), .int (nI kx2), .int (nI ka), .int 1]) (st' := [.int 1]) rfl ?_
              refine wp_if_f rfl (show ¬ ((1 : Int32) = 0) from by decide) ?_
              refine wp_run 3 (pc' := 76) (ls' := [.ref 74, .int (nI kx1), .int (nI kx2), .int (nI ka), .int 1]) (st' := [.int 1, .int (nI kx1), .ref 74]) rfl ?_
              refine wp_callV (o := 74) (as := [.int (nI kx1), .int 1]) (rest := []) (els := [.ref 74, .int (nI kx1), .int 1]) rfl rfl rfl rfl rfl rfl rfl rfl (by omega) ?_
              refine sp_of (w := 1) (h 75 (35 + 3 * kx1 + 1)) rfl (by omega) (by omega) ?_
              show am_wp L xs _ _ _ _ 79 [.ref 74, .int (nI kx1), .int (nI kx2), .int (nI ka), .int 1] [.int (h 75 (35 + 3 * kx1 + 1))] (am_S b) h _
              refine wp_run 1 (pc' := 88) (ls' := [.ref 74, .int (nI kx1), .int (nI kx2), .int (nI ka), .int 1]) (st' := [.int (h 75 (35 + 3 * kx1 + 1))]) rfl ?_
              refine wp_ret rfl ?_
              rw [show ((h 75 (35 + 3 * kx1 + 1)) : Int32) = (h 7 kx1) from (H.2.2.2.2.2.1 kx1 (by omega)).2.1.symm]
              exact kk2 _ _ ⟨⟨n, c, t, tp, wt, s0, s1, p0, p1, H⟩, re_im_s hI, hE, hS0, hS1, hS2, hS3, hT⟩
            · skip
              have cq38n : ¬ (kx2 = ka) := fun q => cq38 ((nI_eq (a := kx2) (b := ka) (by omega) (by omega)).mpr q)
              refine wp_run 2 (pc' := 43) (ls' := [.ref 74, .int (nI kx1), .int (nI kx2), .int (nI ka), am_du]) (st' := [.int 1, .int (nI kx2)]) rfl ?_
              refine wp_icmp rfl (fun (cq43 : ¬ (nI kx2) = 1) => ?_) (fun (cq43 : ¬ (¬ (nI kx2) = 1)) => ?_)
              · skip
                have cq43n : ¬ (kx2 = 1) := fun q => cq43 ((nI_eq (a := kx2) (b := 1) (by omega) (by omega)).mpr q)
                refine wp_run 2 (pc' := 53) (ls' := [.ref 74, .int (nI kx1), .int (nI kx2), .int (nI ka), am_du]) (st' := [.int 2, .int (nI kx2)]) rfl ?_
                refine wp_icmp rfl (fun (cq53 : ¬ (nI kx2) = 2) => ?_) (fun (cq53 : ¬ (¬ (nI kx2) = 2)) => ?_)
                · skip
                  have cq53n : ¬ (kx2 = 2) := fun q => cq53 ((nI_eq (a := kx2) (b := 2) (by omega) (by omega)).mpr q)
                  refine wp_run 3 (pc' := 70) (ls' := [.ref 74, .int (nI kx1), .int (nI kx2), .int (nI ka), .int 0]) (st' := [.int 0]) rfl ?_
                  refine wp_if_t rfl (show (0 : Int32) = 0 from by decide) ?_
                  refine wp_run 2 (pc' := 85) (ls' := [.ref 74, .int (nI kx1), .int (nI kx2), .int (nI ka), .int 0]) (st' := [.int (-1000000005), .ref 74]) rfl ?_
                  refine wp_callV (o := 74) (as := [.int (-1000000005)]) (rest := []) (els := [.ref 74, .int (-1000000005)]) rfl rfl rfl rfl rfl rfl rfl rfl (by omega) ?_
                  refine sp_error5 ?_
                  show am_wp L xs _ _ _ _ 88 [.ref 74, .int (nI kx1), .int (nI kx2), .int (nI ka), .int 0] [.int (-1000000005)] (am_S b) (am_u h 77 5 (h 77 5 + 1)) _
                  refine wp_ret rfl ?_
                  exfalso; omega
                · skip
                  replace cq53 := Decidable.not_not.mp cq53
                  have cq53n : kx2 = 2 := (nI_eq (a := kx2) (b := 2) (by omega) (by omega)).mp cq53
                  refine wp_run 2 (pc' := 58) (ls' := [.ref 74, .int (nI kx1), .int (nI kx2), .int (nI ka), am_du]) (st' := [.int 5, .int (nI ka)]) rfl ?_
                  refine wp_icmp rfl (fun (cq58 : ¬ (nI ka) = 5) => ?_) (fun (cq58 : ¬ (¬ (nI ka) = 5)) => ?_)
                  · skip
                    have cq58n : ¬ (ka = 5) := fun q => cq58 ((nI_eq (a := ka) (b := 5) (by omega) (by omega)).mpr q)
                    refine wp_run 3 (pc' := 70) (ls' := [.ref 74, .int (nI kx1), .int (nI kx2), .int (nI ka), .int 0]) (st' := [.int 0]) rfl ?_
                    refine wp_if_t rfl (show (0 : Int32) = 0 from by decide) ?_
                    refine wp_run 2 (pc' := 85) (ls' := [.ref 74, .int (nI kx1), .int (nI kx2), .int (nI ka), .int 0]) (st' := [.int (-1000000005), .ref 74]) rfl ?_
                    refine wp_callV (o := 74) (as := [.int (-1000000005)]) (rest := []) (els := [.ref 74, .int (-1000000005)]) rfl rfl rfl rfl rfl rfl rfl rfl (by omega) ?_
                    refine sp_error5 ?_
                    show am_wp L xs _ _ _ _ 88 [.ref 74, .int (nI kx1), .int (nI kx2), .int (nI ka), .int 0] [.int (-1000000005)] (am_S b) (am_u h 77 5 (h 77 5 + 1)) _
                    refine wp_ret rfl ?_
                    exfalso; omega
                  · skip
                    replace cq58 := Decidable.not_not.mp cq58
                    have cq58n : ka = 5 := (nI_eq (a := ka) (b := 5) (by omega) (by omega)).mp cq58
                    refine wp_run 4 (pc' := 70) (ls' := [.ref 74, .int (nI kx1), .int (nI kx2), .int (nI ka), .int 1]) (st' := [.int 1]) rfl ?_
                    refine wp_if_f rfl (show ¬ ((1 : Int32) = 0) from by decide) ?_
                    refine wp_run 3 (pc' := 76) (ls' := [.ref 74, .int (nI kx1), .int (nI kx2), .int (nI ka), .int 1]) (st' := [.int 1, .int (nI kx1), .ref 74]) rfl ?_
                    refine wp_callV (o := 74) (as := [.int (nI kx1), .int 1]) (rest := []) (els := [.ref 74, .int (nI kx1), .int 1]) rfl rfl rfl rfl rfl rfl rfl rfl (by omega) ?_
                    refine sp_of (w := 1) (h 75 (35 + 3 * kx1 + 1)) rfl (by omega) (by omega) ?_
                    show am_wp L xs _ _ _ _ 79 [.ref 74, .int (nI kx1), .int (nI kx2), .int (nI ka), .int 1] [.int (h 75 (35 + 3 * kx1 + 1))] (am_S b) h _
                    refine wp_run 1 (pc' := 88) (ls' := [.ref 74, .int (nI kx1), .int (nI kx2), .int (nI ka), .int 1]) (st' := [.int (h 75 (35 + 3 * kx1 + 1))]) rfl ?_
                    refine wp_ret rfl ?_
                    rw [show ((h 75 (35 + 3 * kx1 + 1)) : Int32) = (h 7 kx1) from (H.2.2.2.2.2.1 kx1 (by omega)).2.1.symm]
                    exact kk2 _ _ ⟨⟨n, c, t, tp, wt, s0, s1, p0, p1, H⟩, re_im_s hI, hE, hS0, hS1, hS2, hS3, hT⟩
              · skip
                replace cq43 := Decidable.not_not.mp cq43
                have cq43n : kx2 = 1 := (nI_eq (a := kx2) (b := 1) (by omega) (by omega)).mp cq43
                refine wp_run 2 (pc' := 48) (ls' := [.ref 74, .int (nI kx1), .int (nI kx2), .int (nI ka), am_du]) (st' := [.int 4, .int (nI ka)]) rfl ?_
                refine wp_icmp rfl (fun (cq48 : (nI ka) = 4) => ?_) (fun (cq48 : ¬ ((nI ka) = 4)) => ?_)
                · skip
                  have cq48n : ka = 4 := (nI_eq (a := ka) (b := 4) (by omega) (by omega)).mp cq48
                  refine wp_run 4 (pc' := 70) (ls' := [.ref 74, .int (nI kx1), .int (nI kx2), .int (nI ka), .int 1]) (st' := [.int 1]) rfl ?_
                  refine wp_if_f rfl (show ¬ ((1 : Int32) = 0) from by decide) ?_
                  refine wp_run 3 (pc' := 76) (ls' := [.ref 74, .int (nI kx1), .int (nI kx2), .int (nI ka), .int 1]) (st' := [.int 1, .int (nI kx1), .ref 74]) rfl ?_
                  refine wp_callV (o := 74) (as := [.int (nI kx1), .int 1]) (rest := []) (els := [.ref 74, .int (nI kx1), .int 1]) rfl rfl rfl rfl rfl rfl rfl rfl (by omega) ?_
                  refine sp_of (w := 1) (h 75 (35 + 3 * kx1 + 1)) rfl (by omega) (by omega) ?_
                  show am_wp L xs _ _ _ _ 79 [.ref 74, .int (nI kx1), .int (nI kx2), .int (nI ka), .int 1] [.int (h 75 (35 + 3 * kx1 + 1))] (am_S b) h _
                  refine wp_run 1 (pc' := 88) (ls' := [.ref 74, .int (nI kx1), .int (nI kx2), .int (nI ka), .int 1]) (st' := [.int (h 75 (35 + 3 * kx1 + 1))]) rfl ?_
                  refine wp_ret rfl ?_
                  rw [show ((h 75 (35 + 3 * kx1 + 1)) : Int32) = (h 7 kx1) from (H.2.2.2.2.2.1 kx1 (by omega)).2.1.symm]
                  exact kk2 _ _ ⟨⟨n, c, t, tp, wt, s0, s1, p0, p1, H⟩, re_im_s hI, hE, hS0, hS1, hS2, hS3, hT⟩
                · skip
                  have cq48n : ¬ (ka = 4) := fun q => cq48 ((nI_eq (a := ka) (b := 4) (by omega) (by omega)).mpr q)
                  refine wp_run 2 (pc' := 53) (ls' := [.ref 74, .int (nI kx1), .int (nI kx2), .int (nI ka), am_du]) (st' := [.int 2, .int (nI kx2)]) rfl ?_
                  refine wp_icmp rfl (fun (cq53 : ¬ (nI kx2) = 2) => ?_) (fun (cq53 : ¬ (¬ (nI kx2) = 2)) => ?_)
                  · skip
                    have cq53n : ¬ (kx2 = 2) := fun q => cq53 ((nI_eq (a := kx2) (b := 2) (by omega) (by omega)).mpr q)
                    refine wp_run 3 (pc' := 70) (ls' := [.ref 74, .int (nI kx1), .int (nI kx2), .int (nI ka), .int 0]) (st' := [.int 0]) rfl ?_
                    refine wp_if_t rfl (show (0 : Int32) = 0 from by decide) ?_
                    refine wp_run 2 (pc' := 85) (ls' := [.ref 74, .int (nI kx1), .int (nI kx2), .int (nI ka), .int 0]) (st' := [.int (-1000000005), .ref 74]) rfl ?_
                    refine wp_callV (o := 74) (as := [.int (-1000000005)]) (rest := []) (els := [.ref 74, .int (-1000000005)]) rfl rfl rfl rfl rfl rfl rfl rfl (by omega) ?_
                    refine sp_error5 ?_
                    show am_wp L xs _ _ _ _ 88 [.ref 74, .int (nI kx1), .int (nI kx2), .int (nI ka), .int 0] [.int (-1000000005)] (am_S b) (am_u h 77 5 (h 77 5 + 1)) _
                    refine wp_ret rfl ?_
                    exfalso; omega
                  · skip
                    replace cq53 := Decidable.not_not.mp cq53
                    have cq53n : kx2 = 2 := (nI_eq (a := kx2) (b := 2) (by omega) (by omega)).mp cq53
                    refine wp_run 2 (pc' := 58) (ls' := [.ref 74, .int (nI kx1), .int (nI kx2), .int (nI ka), am_du]) (st' := [.int 5, .int (nI ka)]) rfl ?_
                    refine wp_icmp rfl (fun (cq58 : ¬ (nI ka) = 5) => ?_) (fun (cq58 : ¬ (¬ (nI ka) = 5)) => ?_)
                    · skip
                      have cq58n : ¬ (ka = 5) := fun q => cq58 ((nI_eq (a := ka) (b := 5) (by omega) (by omega)).mpr q)
                      refine wp_run 3 (pc' := 70) (ls' := [.ref 74, .int (nI kx1), .int (nI kx2), .int (nI ka), .int 0]) (st' := [.int 0]) rfl ?_
                      refine wp_if_t rfl (show (0 : Int32) = 0 from by decide) ?_
                      refine wp_run 2 (pc' := 85) (ls' := [.ref 74, .int (nI kx1), .int (nI kx2), .int (nI ka), .int 0]) (st' := [.int (-1000000005), .ref 74]) rfl ?_
                      refine wp_callV (o := 74) (as := [.int (-1000000005)]) (rest := []) (els := [.ref 74, .int (-1000000005)]) rfl rfl rfl rfl rfl rfl rfl rfl (by omega) ?_
                      refine sp_error5 ?_
                      show am_wp L xs _ _ _ _ 88 [.ref 74, .int (nI kx1), .int (nI kx2), .int (nI ka), .int 0] [.int (-1000000005)] (am_S b) (am_u h 77 5 (h 77 5 + 1)) _
                      refine wp_ret rfl ?_
                      exfalso; omega
                    · skip
                      replace cq58 := Decidable.not_not.mp cq58
                      have cq58n : ka = 5 := (nI_eq (a := ka) (b := 5) (by omega) (by omega)).mp cq58
                      refine wp_run 4 (pc' := 70) (ls' := [.ref 74, .int (nI kx1), .int (nI kx2), .int (nI ka), .int 1]) (st' := [.int 1]) rfl ?_
                      refine wp_if_f rfl (show ¬ ((1 : Int32) = 0) from by decide) ?_
                      refine wp_run 3 (pc' := 76) (ls' := [.ref 74, .int (nI kx1), .int (nI kx2), .int (nI ka), .int 1]) (st' := [.int 1, .int (nI kx1), .ref 74]) rfl ?_
                      refine wp_callV (o := 74) (as := [.int (nI kx1), .int 1]) (rest := []) (els := [.ref 74, .int (nI kx1), .int 1]) rfl rfl rfl rfl rfl rfl rfl rfl (by omega) ?_
                      refine sp_of (w := 1) (h 75 (35 + 3 * kx1 + 1)) rfl (by omega) (by omega) ?_
                      show am_wp L xs _ _ _ _ 79 [.ref 74, .int (nI kx1), .int (nI kx2), .int (nI ka), .int 1] [.int (h 75 (35 + 3 * kx1 + 1))] (am_S b) h _
                      refine wp_run 1 (pc' := 88) (ls' := [.ref 74, .int (nI kx1), .int (nI kx2), .int (nI ka), .int 1]) (st' := [.int (h 75 (35 + 3 * kx1 + 1))]) rfl ?_
                      refine wp_ret rfl ?_
                      rw [show ((h 75 (35 + 3 * kx1 + 1)) : Int32) = (h 7 kx1) from (H.2.2.2.2.2.1 kx1 (by omega)).2.1.symm]
                      exact kk2 _ _ ⟨⟨n, c, t, tp, wt, s0, s1, p0, p1, H⟩, re_im_s hI, hE, hS0, hS1, hS2, hS3, hT⟩
        · skip
          intro hund
          unfold pu_und at hund
          show am_wp L xs _ _ _ _ 40 [.ref 0, .int (nI kx1), .int (nI kx2)] [.int 0] (am_S b) h _
          refine wp_if_f rfl (show ¬ (¬ (0 : Int32) = 0) from by decide) ?_
          refine wp_run 2 (pc' := 45) (ls' := [.ref 0, .int (nI kx1), .int (nI kx2)]) (st' := [.int 5, .ref 0]) rfl ?_
          refine wp_callV (o := 0) (as := [.int 5]) (rest := []) (els := [.ref 0, .int 5]) rfl rfl rfl rfl rfl rfl rfl rfl (by omega) ?_
          refine sp_refuse5 (by omega) ?_
          show am_wp L xs _ _ _ _ 48 [.ref 0, .int (nI kx1), .int (nI kx2)] [.int (-1000000005)] (am_S b) (am_u h 73 5 (h 73 5 + 1)) _
          refine wp_ret rfl ?_
          refine kk _ _ _ (fun ms2 Q2 kk2 => ?_)
          refine wp_run 2 (pc' := 2) (ls' := [.ref 74, .int (nI kx1), .int (nI kx2), am_du, am_du]) (st' := [.int (nI kx1), .ref 74]) rfl ?_
          refine wp_callV (o := 74) (as := [.int (nI kx1)]) (rest := []) (els := [.ref 74, .int (nI kx1)]) rfl rfl rfl rfl rfl rfl rfl rfl (by omega) ?_
          refine sp_m_isCoat hm3 hc7 (by omega) (fun _ _ _ => ?_) (fun q => absurd rfl (q kx1 (by omega)))
          show am_wp L xs _ _ _ _ 5 [.ref 74, .int (nI kx1), .int (nI kx2), am_du, am_du] [.int 1] (am_S b) (am_u h 73 5 (h 73 5 + 1)) _
          refine wp_if_f rfl (show ¬ ((1 : Int32) = 0) from by decide) ?_
          refine wp_run 3 (pc' := 12) (ls' := [.ref 74, .int (nI kx1), .int (nI kx2), am_du, am_du]) (st' := [.int 6, .int 0, .int (nI kx2)]) rfl ?_
          refine wp_callS (as := [.int (nI kx2), .int 0, .int 6]) (rest := []) (els := [.int (nI kx2), .int 0, .int 6]) rfl rfl rfl rfl rfl rfl rfl rfl (by omega) ?_
          refine sp_m_in0 (m := 6) rfl rfl (fun _ _ _ => ?_) (fun q => absurd rfl (q kx2 (by omega)))
          show am_wp L xs _ _ _ _ 15 [.ref 74, .int (nI kx1), .int (nI kx2), am_du, am_du] [.int 1] (am_S b) (am_u h 73 5 (h 73 5 + 1)) _
          refine wp_if_t rfl (show ¬ (1 : Int32) = 0 from by decide) ?_
          refine wp_run 3 (pc' := 28) (ls' := [.ref 74, .int (nI kx1), .int (nI kx2), am_du, am_du]) (st' := [.int 0, .int (nI kx1), .ref 74]) rfl ?_
          refine wp_callV (o := 74) (as := [.int (nI kx1), .int 0]) (rest := []) (els := [.ref 74, .int (nI kx1), .int 0]) rfl rfl rfl rfl rfl rfl rfl rfl (by omega) ?_
          refine sp_of (w := 0) (nI ka) ((H.2.2.2.2.2.1 kx1 (by omega)).1.symm.trans eka) (by omega) (by omega) ?_
          show am_wp L xs _ _ _ _ 31 [.ref 74, .int (nI kx1), .int (nI kx2), am_du, am_du] [.int (nI ka)] (am_S b) (am_u h 73 5 (h 73 5 + 1)) _
          refine wp_run 2 (pc' := 33) (ls' := [.ref 74, .int (nI kx1), .int (nI kx2), .int (nI ka), am_du]) (st' := [.int (nI kx2)]) rfl ?_
          refine wp_if rfl (fun (cq33 : (nI kx2) = 0) => ?_) (fun (cq33 : ¬ ((nI kx2) = 0)) => ?_)
          · skip
            have cq33n : kx2 = 0 := (nI_eq (a := kx2) (b := 0) (by omega) (by omega)).mp cq33
            refine wp_run 4 (pc' := 70) (ls' := [.ref 74, .int (nI kx1), .int (nI kx2), .int (nI ka), .int 1]) (st' := [.int 1]) rfl ?_
            refine wp_if_f rfl (show ¬ ((1 : Int32) = 0) from by decide) ?_
            refine wp_run 3 (pc' := 76) (ls' := [.ref 74, .int (nI kx1), .int (nI kx2), .int (nI ka), .int 1]) (st' := [.int 1, .int (nI kx1), .ref 74]) rfl ?_
            refine wp_callV (o := 74) (as := [.int (nI kx1), .int 1]) (rest := []) (els := [.ref 74, .int (nI kx1), .int 1]) rfl rfl rfl rfl rfl rfl rfl rfl (by omega) ?_
            refine sp_of (w := 1) (h 75 (35 + 3 * kx1 + 1)) rfl (by omega) (by omega) ?_
            show am_wp L xs _ _ _ _ 79 [.ref 74, .int (nI kx1), .int (nI kx2), .int (nI ka), .int 1] [.int (h 75 (35 + 3 * kx1 + 1))] (am_S b) (am_u h 73 5 (h 73 5 + 1)) _
            refine wp_run 1 (pc' := 88) (ls' := [.ref 74, .int (nI kx1), .int (nI kx2), .int (nI ka), .int 1]) (st' := [.int (h 75 (35 + 3 * kx1 + 1))]) rfl ?_
            refine wp_ret rfl ?_
            exfalso; omega
          · skip
            have cq33n : ¬ (kx2 = 0) := fun q => cq33 ((nI_eq (a := kx2) (b := 0) (by omega) (by omega)).mpr q)
            refine wp_run 2 (pc' := 38) (ls' := [.ref 74, .int (nI kx1), .int (nI kx2), .int (nI ka), am_du]) (st' := [.int (nI ka), .int (nI kx2)]) rfl ?_
            refine wp_icmp rfl (fun (cq38 : (nI kx2) = (nI ka)) => ?_) (fun (cq38 : ¬ ((nI kx2) = (nI ka))) => ?_)
            · skip
              have cq38n : kx2 = ka := (nI_eq (a := kx2) (b := ka) (by omega) (by omega)).mp cq38
              refine wp_run 4 (pc' := 70) (ls' := [.ref 74, .int (nI kx1), .int (nI kx2), .int (nI ka), .int 1]) (st' := [.int 1]) rfl ?_
              refine wp_if_f rfl (show ¬ ((1 : Int32) = 0) from by decide) ?_
              refine wp_run 3 (pc' := 76) (ls' := [.ref 74, .int (nI kx1), .int (nI kx2), .int (nI ka), .int 1]) (st' := [.int 1, .int (nI kx1), .ref 74]) rfl ?_
              refine wp_callV (o := 74) (as := [.int (nI kx1), .int 1]) (rest := []) (els := [.ref 74, .int (nI kx1), .int 1]) rfl rfl rfl rfl rfl rfl rfl rfl (by omega) ?_
              refine sp_of (w := 1) (h 75 (35 + 3 * kx1 + 1)) rfl (by omega) (by omega) ?_
              show am_wp L xs _ _ _ _ 79 [.ref 74, .int (nI kx1), .int (nI kx2), .int (nI ka), .int 1] [.int (h 75 (35 + 3 * kx1 + 1))] (am_S b) (am_u h 73 5 (h 73 5 + 1)) _
              refine wp_run 1 (pc' := 88) (ls' := [.ref 74, .int (nI kx1), .int (nI kx2), .int (nI ka), .int 1]) (st' := [.int (h 75 (35 + 3 * kx1 + 1))]) rfl ?_
              refine wp_ret rfl ?_
              exfalso; omega
            · skip
              have cq38n : ¬ (kx2 = ka) := fun q => cq38 ((nI_eq (a := kx2) (b := ka) (by omega) (by omega)).mpr q)
              refine wp_run 2 (pc' := 43) (ls' := [.ref 74, .int (nI kx1), .int (nI kx2), .int (nI ka), am_du]) (st' := [.int 1, .int (nI kx2)]) rfl ?_
              refine wp_icmp rfl (fun (cq43 : ¬ (nI kx2) = 1) => ?_) (fun (cq43 : ¬ (¬ (nI kx2) = 1)) => ?_)
              · skip
                have cq43n : ¬ (kx2 = 1) := fun q => cq43 ((nI_eq (a := kx2) (b := 1) (by omega) (by omega)).mpr q)
                refine wp_run 2 (pc' := 53) (ls' := [.ref 74, .int (nI kx1), .int (nI kx2), .int (nI ka), am_du]) (st' := [.int 2, .int (nI kx2)]) rfl ?_
                refine wp_icmp rfl (fun (cq53 : ¬ (nI kx2) = 2) => ?_) (fun (cq53 : ¬ (¬ (nI kx2) = 2)) => ?_)
                · skip
                  have cq53n : ¬ (kx2 = 2) := fun q => cq53 ((nI_eq (a := kx2) (b := 2) (by omega) (by omega)).mpr q)
                  refine wp_run 3 (pc' := 70) (ls' := [.ref 74, .int (nI kx1), .int (nI kx2), .int (nI ka), .int 0]) (st' := [.int 0]) rfl ?_
                  refine wp_if_t rfl (show (0 : Int32) = 0 from by decide) ?_
                  refine wp_run 2 (pc' := 85) (ls' := [.ref 74, .int (nI kx1), .int (nI kx2), .int (nI ka), .int 0]) (st' := [.int (-1000000005), .ref 74]) rfl ?_
                  refine wp_callV (o := 74) (as := [.int (-1000000005)]) (rest := []) (els := [.ref 74, .int (-1000000005)]) rfl rfl rfl rfl rfl rfl rfl rfl (by omega) ?_
                  refine sp_error5 ?_
                  show am_wp L xs _ _ _ _ 88 [.ref 74, .int (nI kx1), .int (nI kx2), .int (nI ka), .int 0] [.int (-1000000005)] (am_S b) (am_u (am_u h 73 5 (h 73 5 + 1)) 77 5 ((am_u h 73 5 (h 73 5 + 1)) 77 5 + 1)) _
                  refine wp_ret rfl ?_
                  exact kk2 _ _ (re_err5 hR)
                · skip
                  replace cq53 := Decidable.not_not.mp cq53
                  have cq53n : kx2 = 2 := (nI_eq (a := kx2) (b := 2) (by omega) (by omega)).mp cq53
                  refine wp_run 2 (pc' := 58) (ls' := [.ref 74, .int (nI kx1), .int (nI kx2), .int (nI ka), am_du]) (st' := [.int 5, .int (nI ka)]) rfl ?_
                  refine wp_icmp rfl (fun (cq58 : ¬ (nI ka) = 5) => ?_) (fun (cq58 : ¬ (¬ (nI ka) = 5)) => ?_)
                  · skip
                    have cq58n : ¬ (ka = 5) := fun q => cq58 ((nI_eq (a := ka) (b := 5) (by omega) (by omega)).mpr q)
                    refine wp_run 3 (pc' := 70) (ls' := [.ref 74, .int (nI kx1), .int (nI kx2), .int (nI ka), .int 0]) (st' := [.int 0]) rfl ?_
                    refine wp_if_t rfl (show (0 : Int32) = 0 from by decide) ?_
                    refine wp_run 2 (pc' := 85) (ls' := [.ref 74, .int (nI kx1), .int (nI kx2), .int (nI ka), .int 0]) (st' := [.int (-1000000005), .ref 74]) rfl ?_
                    refine wp_callV (o := 74) (as := [.int (-1000000005)]) (rest := []) (els := [.ref 74, .int (-1000000005)]) rfl rfl rfl rfl rfl rfl rfl rfl (by omega) ?_
                    refine sp_error5 ?_
                    show am_wp L xs _ _ _ _ 88 [.ref 74, .int (nI kx1), .int (nI kx2), .int (nI ka), .int 0] [.int (-1000000005)] (am_S b) (am_u (am_u h 73 5 (h 73 5 + 1)) 77 5 ((am_u h 73 5 (h 73 5 + 1)) 77 5 + 1)) _
                    refine wp_ret rfl ?_
                    exact kk2 _ _ (re_err5 hR)
                  · skip
                    replace cq58 := Decidable.not_not.mp cq58
                    have cq58n : ka = 5 := (nI_eq (a := ka) (b := 5) (by omega) (by omega)).mp cq58
                    refine wp_run 4 (pc' := 70) (ls' := [.ref 74, .int (nI kx1), .int (nI kx2), .int (nI ka), .int 1]) (st' := [.int 1]) rfl ?_
                    refine wp_if_f rfl (show ¬ ((1 : Int32) = 0) from by decide) ?_
                    refine wp_run 3 (pc' := 76) (ls' := [.ref 74, .int (nI kx1), .int (nI kx2), .int (nI ka), .int 1]) (st' := [.int 1, .int (nI kx1), .ref 74]) rfl ?_
                    refine wp_callV (o := 74) (as := [.int (nI kx1), .int 1]) (rest := []) (els := [.ref 74, .int (nI kx1), .int 1]) rfl rfl rfl rfl rfl rfl rfl rfl (by omega) ?_
                    refine sp_of (w := 1) (h 75 (35 + 3 * kx1 + 1)) rfl (by omega) (by omega) ?_
                    show am_wp L xs _ _ _ _ 79 [.ref 74, .int (nI kx1), .int (nI kx2), .int (nI ka), .int 1] [.int (h 75 (35 + 3 * kx1 + 1))] (am_S b) (am_u h 73 5 (h 73 5 + 1)) _
                    refine wp_run 1 (pc' := 88) (ls' := [.ref 74, .int (nI kx1), .int (nI kx2), .int (nI ka), .int 1]) (st' := [.int (h 75 (35 + 3 * kx1 + 1))]) rfl ?_
                    refine wp_ret rfl ?_
                    exfalso; omega
              · skip
                replace cq43 := Decidable.not_not.mp cq43
                have cq43n : kx2 = 1 := (nI_eq (a := kx2) (b := 1) (by omega) (by omega)).mp cq43
                refine wp_run 2 (pc' := 48) (ls' := [.ref 74, .int (nI kx1), .int (nI kx2), .int (nI ka), am_du]) (st' := [.int 4, .int (nI ka)]) rfl ?_
                refine wp_icmp rfl (fun (cq48 : (nI ka) = 4) => ?_) (fun (cq48 : ¬ ((nI ka) = 4)) => ?_)
                · skip
                  have cq48n : ka = 4 := (nI_eq (a := ka) (b := 4) (by omega) (by omega)).mp cq48
                  refine wp_run 4 (pc' := 70) (ls' := [.ref 74, .int (nI kx1), .int (nI kx2), .int (nI ka), .int 1]) (st' := [.int 1]) rfl ?_
                  refine wp_if_f rfl (show ¬ ((1 : Int32) = 0) from by decide) ?_
                  refine wp_run 3 (pc' := 76) (ls' := [.ref 74, .int (nI kx1), .int (nI kx2), .int (nI ka), .int 1]) (st' := [.int 1, .int (nI kx1), .ref 74]) rfl ?_
                  refine wp_callV (o := 74) (as := [.int (nI kx1), .int 1]) (rest := []) (els := [.ref 74, .int (nI kx1), .int 1]) rfl rfl rfl rfl rfl rfl rfl rfl (by omega) ?_
                  refine sp_of (w := 1) (h 75 (35 + 3 * kx1 + 1)) rfl (by omega) (by omega) ?_
                  show am_wp L xs _ _ _ _ 79 [.ref 74, .int (nI kx1), .int (nI kx2), .int (nI ka), .int 1] [.int (h 75 (35 + 3 * kx1 + 1))] (am_S b) (am_u h 73 5 (h 73 5 + 1)) _
                  refine wp_run 1 (pc' := 88) (ls' := [.ref 74, .int (nI kx1), .int (nI kx2), .int (nI ka), .int 1]) (st' := [.int (h 75 (35 + 3 * kx1 + 1))]) rfl ?_
                  refine wp_ret rfl ?_
                  exfalso; omega
                · skip
                  have cq48n : ¬ (ka = 4) := fun q => cq48 ((nI_eq (a := ka) (b := 4) (by omega) (by omega)).mpr q)
                  refine wp_run 2 (pc' := 53) (ls' := [.ref 74, .int (nI kx1), .int (nI kx2), .int (nI ka), am_du]) (st' := [.int 2, .int (nI kx2)]) rfl ?_
                  refine wp_icmp rfl (fun (cq53 : ¬ (nI kx2) = 2) => ?_) (fun (cq53 : ¬ (¬ (nI kx2) = 2)) => ?_)
                  · skip
                    have cq53n : ¬ (kx2 = 2) := fun q => cq53 ((nI_eq (a := kx2) (b := 2) (by omega) (by omega)).mpr q)
                    refine wp_run 3 (pc' := 70) (ls' := [.ref 74, .int (nI kx1), .int (nI kx2), .int (nI ka), .int 0]) (st' := [.int 0]) rfl ?_
                    refine wp_if_t rfl (show (0 : Int32) = 0 from by decide) ?_
                    refine wp_run 2 (pc' := 85) (ls' := [.ref 74, .int (nI kx1), .int (nI kx2), .int (nI ka), .int 0]) (st' := [.int (-1000000005), .ref 74]) rfl ?_
                    refine wp_callV (o := 74) (as := [.int (-1000000005)]) (rest := []) (els := [.ref 74, .int (-1000000005)]) rfl rfl rfl rfl rfl rfl rfl rfl (by omega) ?_
                    refine sp_error5 ?_
                    show am_wp L xs _ _ _ _ 88 [.ref 74, .int (nI kx1), .int (nI kx2), .int (nI ka), .int 0] [.int (-1000000005)] (am_S b) (am_u (am_u h 73 5 (h 73 5 + 1)) 77 5 ((am_u h 73 5 (h 73 5 + 1)) 77 5 + 1)) _
                    refine wp_ret rfl ?_
                    exact kk2 _ _ (re_err5 hR)
                  · skip
                    replace cq53 := Decidable.not_not.mp cq53
                    have cq53n : kx2 = 2 := (nI_eq (a := kx2) (b := 2) (by omega) (by omega)).mp cq53
                    refine wp_run 2 (pc' := 58) (ls' := [.ref 74, .int (nI kx1), .int (nI kx2), .int (nI ka), am_du]) (st' := [.int 5, .int (nI ka)]) rfl ?_
                    refine wp_icmp rfl (fun (cq58 : ¬ (nI ka) = 5) => ?_) (fun (cq58 : ¬ (¬ (nI ka) = 5)) => ?_)
                    · skip
                      have cq58n : ¬ (ka = 5) := fun q => cq58 ((nI_eq (a := ka) (b := 5) (by omega) (by omega)).mpr q)
                      refine wp_run 3 (pc' := 70) (ls' := [.ref 74, .int (nI kx1), .int (nI kx2), .int (nI ka), .int 0]) (st' := [.int 0]) rfl ?_
                      refine wp_if_t rfl (show (0 : Int32) = 0 from by decide) ?_
                      refine wp_run 2 (pc' := 85) (ls' := [.ref 74, .int (nI kx1), .int (nI kx2), .int (nI ka), .int 0]) (st' := [.int (-1000000005), .ref 74]) rfl ?_
                      refine wp_callV (o := 74) (as := [.int (-1000000005)]) (rest := []) (els := [.ref 74, .int (-1000000005)]) rfl rfl rfl rfl rfl rfl rfl rfl (by omega) ?_
                      refine sp_error5 ?_
                      show am_wp L xs _ _ _ _ 88 [.ref 74, .int (nI kx1), .int (nI kx2), .int (nI ka), .int 0] [.int (-1000000005)] (am_S b) (am_u (am_u h 73 5 (h 73 5 + 1)) 77 5 ((am_u h 73 5 (h 73 5 + 1)) 77 5 + 1)) _
                      refine wp_ret rfl ?_
                      exact kk2 _ _ (re_err5 hR)
                    · skip
                      replace cq58 := Decidable.not_not.mp cq58
                      have cq58n : ka = 5 := (nI_eq (a := ka) (b := 5) (by omega) (by omega)).mp cq58
                      refine wp_run 4 (pc' := 70) (ls' := [.ref 74, .int (nI kx1), .int (nI kx2), .int (nI ka), .int 1]) (st' := [.int 1]) rfl ?_
                      refine wp_if_f rfl (show ¬ ((1 : Int32) = 0) from by decide) ?_
                      refine wp_run 3 (pc' := 76) (ls' := [.ref 74, .int (nI kx1), .int (nI kx2), .int (nI ka), .int 1]) (st' := [.int 1, .int (nI kx1), .ref 74]) rfl ?_
                      refine wp_callV (o := 74) (as := [.int (nI kx1), .int 1]) (rest := []) (els := [.ref 74, .int (nI kx1), .int 1]) rfl rfl rfl rfl rfl rfl rfl rfl (by omega) ?_
                      refine sp_of (w := 1) (h 75 (35 + 3 * kx1 + 1)) rfl (by omega) (by omega) ?_
                      show am_wp L xs _ _ _ _ 79 [.ref 74, .int (nI kx1), .int (nI kx2), .int (nI ka), .int 1] [.int (h 75 (35 + 3 * kx1 + 1))] (am_S b) (am_u h 73 5 (h 73 5 + 1)) _
                      refine wp_run 1 (pc' := 88) (ls' := [.ref 74, .int (nI kx1), .int (nI kx2), .int (nI ka), .int 1]) (st' := [.int (h 75 (35 + 3 * kx1 + 1))]) rfl ?_
                      refine wp_ret rfl ?_
                      exfalso; omega
    · skip
      intro hnx2
      show am_wp L xs _ _ _ _ 18 [.ref 0, .int (nI kx1), .int x2] [.int 0] (am_S b) h _
      refine wp_if_f rfl (show ¬ (¬ (0 : Int32) = 0) from by decide) ?_
      refine wp_run 2 (pc' := 23) (ls' := [.ref 0, .int (nI kx1), .int x2]) (st' := [.int 1, .ref 0]) rfl ?_
      refine wp_callV (o := 0) (as := [.int 1]) (rest := []) (els := [.ref 0, .int 1]) rfl rfl rfl rfl rfl rfl rfl rfl (by omega) ?_
      refine sp_refuse1 (by omega) ?_
      show am_wp L xs _ _ _ _ 26 [.ref 0, .int (nI kx1), .int x2] [.int (-1000000001)] (am_S b) (am_u h 73 1 (h 73 1 + 1)) _
      refine wp_ret rfl ?_
      refine kk _ _ _ (fun ms2 Q2 kk2 => ?_)
      refine wp_run 2 (pc' := 2) (ls' := [.ref 74, .int (nI kx1), .int x2, am_du, am_du]) (st' := [.int (nI kx1), .ref 74]) rfl ?_
      refine wp_callV (o := 74) (as := [.int (nI kx1)]) (rest := []) (els := [.ref 74, .int (nI kx1)]) rfl rfl rfl rfl rfl rfl rfl rfl (by omega) ?_
      refine sp_m_isCoat hm3 hc7 (by omega) (fun _ _ _ => ?_) (fun q => absurd rfl (q kx1 (by omega)))
      show am_wp L xs _ _ _ _ 5 [.ref 74, .int (nI kx1), .int x2, am_du, am_du] [.int 1] (am_S b) (am_u h 73 1 (h 73 1 + 1)) _
      refine wp_if_f rfl (show ¬ ((1 : Int32) = 0) from by decide) ?_
      refine wp_run 3 (pc' := 12) (ls' := [.ref 74, .int (nI kx1), .int x2, am_du, am_du]) (st' := [.int 6, .int 0, .int x2]) rfl ?_
      refine wp_callS (as := [.int x2, .int 0, .int 6]) (rest := []) (els := [.int x2, .int 0, .int 6]) rfl rfl rfl rfl rfl rfl rfl rfl (by omega) ?_
      refine sp_m_in0 (m := 6) rfl rfl (fun k hk e => absurd e (hnx2 k hk)) (fun _ => ?_)
      show am_wp L xs _ _ _ _ 15 [.ref 74, .int (nI kx1), .int x2, am_du, am_du] [.int 0] (am_S b) (am_u h 73 1 (h 73 1 + 1)) _
      refine wp_if_f rfl (show ¬ (¬ (0 : Int32) = 0) from by decide) ?_
      refine wp_run 2 (pc' := 21) (ls' := [.ref 74, .int (nI kx1), .int x2, am_du, am_du]) (st' := [.int (-1000000001), .ref 74]) rfl ?_
      refine wp_callV (o := 74) (as := [.int (-1000000001)]) (rest := []) (els := [.ref 74, .int (-1000000001)]) rfl rfl rfl rfl rfl rfl rfl rfl (by omega) ?_
      refine sp_error1 ?_
      show am_wp L xs _ _ _ _ 24 [.ref 74, .int (nI kx1), .int x2, am_du, am_du] [.int (-1000000001)] (am_S b) (am_u (am_u h 73 1 (h 73 1 + 1)) 77 1 ((am_u h 73 1 (h 73 1 + 1)) 77 1 + 1)) _
      refine wp_ret rfl ?_
      exact kk2 _ _ (re_err1 hR)
  · skip
    intro hnx1
    show am_wp L xs _ _ _ _ 8 [.ref 0, .int x1, .int x2] [.int 0] (am_S b) h _
    refine wp_if_t rfl (show (0 : Int32) = 0 from by decide) ?_
    refine wp_run 2 (pc' := 23) (ls' := [.ref 0, .int x1, .int x2]) (st' := [.int 1, .ref 0]) rfl ?_
    refine wp_callV (o := 0) (as := [.int 1]) (rest := []) (els := [.ref 0, .int 1]) rfl rfl rfl rfl rfl rfl rfl rfl (by omega) ?_
    refine sp_refuse1 (by omega) ?_
    show am_wp L xs _ _ _ _ 26 [.ref 0, .int x1, .int x2] [.int (-1000000001)] (am_S b) (am_u h 73 1 (h 73 1 + 1)) _
    refine wp_ret rfl ?_
    refine kk _ _ _ (fun ms2 Q2 kk2 => ?_)
    refine wp_run 2 (pc' := 2) (ls' := [.ref 74, .int x1, .int x2, am_du, am_du]) (st' := [.int x1, .ref 74]) rfl ?_
    refine wp_callV (o := 74) (as := [.int x1]) (rest := []) (els := [.ref 74, .int x1]) rfl rfl rfl rfl rfl rfl rfl rfl (by omega) ?_
    refine sp_m_isCoat hm3 hc7 (by omega) (fun k hk e => absurd e (hnx1 k hk)) (fun _ => ?_)
    show am_wp L xs _ _ _ _ 5 [.ref 74, .int x1, .int x2, am_du, am_du] [.int 0] (am_S b) (am_u h 73 1 (h 73 1 + 1)) _
    refine wp_if_t rfl (show (0 : Int32) = 0 from by decide) ?_
    refine wp_run 2 (pc' := 21) (ls' := [.ref 74, .int x1, .int x2, am_du, am_du]) (st' := [.int (-1000000001), .ref 74]) rfl ?_
    refine wp_callV (o := 74) (as := [.int (-1000000001)]) (rest := []) (els := [.ref 74, .int (-1000000001)]) rfl rfl rfl rfl rfl rfl rfl rfl (by omega) ?_
    refine sp_error1 ?_
    show am_wp L xs _ _ _ _ 24 [.ref 74, .int x1, .int x2, am_du, am_du] [.int (-1000000001)] (am_S b) (am_u (am_u h 73 1 (h 73 1 + 1)) 77 1 ((am_u h 73 1 (h 73 1 + 1)) 77 1 + 1)) _
    refine wp_ret rfl ?_
    exact kk2 _ _ (re_err1 hR)
