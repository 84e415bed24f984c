/-! calls tied: leaves, left -/
theorem op_leaves {L : Nat} {xs : Nat → Int32} {d ms b N : Nat} {h : am_HI} {Q : am_Q} {x1 : Int32} (hd : 30 ≤ d) (hR : am_Rel N h) (hN : N < 100000)
    (kk : ∀ v b1 h1, (∀ ms2 Q2, (∀ b2 h2, am_Rel (N + 1) h2 → Q2 (some (.int v)) (am_S b2) h2) → am_wp L xs d 0 ms2 158 0 [.ref 74, .int x1, am_du] [] (am_S b1) h1 Q2) → Q (some (.int v)) (am_S b1) h1) :
    am_wp L xs d 0 ms 41 0 [.ref 0, .int x1] [] (am_S b) h Q := by
  obtain ⟨⟨n, c, t, tp, wt, s0, s1, p0, p1, H⟩, hI, hE, hS0, hS1, hS2, hS3, hT⟩ := id hR
  have hn := H.1.1
  have hm2 := H.1.2.1
  have hn7 := H.1.2.2
  have hc := H.2.1.1
  have hm3 := H.2.1.2.1
  have hc7 := H.2.1.2.2
  have ht := H.2.2.1.1
  have hm0 := H.2.2.1.2.1
  have ht9 := H.2.2.1.2.2
  have HS := re_hs H
  have HM := re_ms H
  have hpl := hs_peg_lt hc7 n HS.2.2.2.2.2.2.2.2.2.2
  refine wp_run 1 (pc' := 1) (ls' := [.ref 0, .int x1]) (st' := [.ref 0]) rfl ?_
  refine wp_getr 1 rfl rfl rfl ?_
  refine wp_run 1 (pc' := 5) (ls' := [.ref 0, .int x1]) (st' := [.int x1, .ref 1]) rfl ?_
  refine wp_callV (o := 1) (as := [.int x1]) (rest := []) (els := [.ref 1, .int x1]) rfl rfl rfl rfl rfl rfl rfl rfl (by omega) ?_
  refine sp_hasGuest hn hn7 (by omega) ?_ ?_
  · skip
    intro kx1 hkx1 ex1
    subst ex1
    show am_wp L xs _ _ _ _ 8 [.ref 0, .int (nI kx1)] [.int 1] (am_S b) h _
    refine wp_if_t rfl (show ¬ (1 : Int32) = 0 from by decide) ?_
    refine wp_run 1 (pc' := 18) (ls' := [.ref 0, .int (nI kx1)]) (st' := [.ref 0]) rfl ?_
    refine wp_getr 1 rfl rfl rfl ?_
    refine wp_getr 5 rfl rfl rfl ?_
    refine wp_run 1 (pc' := 25) (ls' := [.ref 0, .int (nI kx1)]) (st' := [.int (nI kx1), .ref 5]) rfl ?_
    refine wp_ald (i := kx1) (h 5 kx1) rfl rfl rfl rfl (by omega) rfl ?_
    refine wp_run 1 (pc' := 27) (ls' := [.ref 0, .int (nI kx1)]) (st' := [.int (-1), .int (h 5 kx1)]) rfl ?_
    refine wp_icmp rfl (fun (cq27 : (h 5 kx1) = (-1)) => ?_) (fun (cq27 : ¬ ((h 5 kx1) = (-1))) => ?_)
    · skip
      refine wp_run 1 (pc' := 37) (ls' := [.ref 0, .int (nI kx1)]) (st' := [.ref 0]) rfl ?_
      refine wp_getr 1 rfl rfl rfl ?_
      refine wp_callV (o := 1) (as := []) (rest := []) (els := [.ref 1, am_du, am_du]) rfl rfl rfl rfl rfl rfl rfl rfl (by omega) ?_
      refine sp_hanging (h := h) (n := n) (c := c) hn hn7 hc hc7 HS.2.2.2.2.2.2.2.2.2.2 (by omega) ?_
      show am_wp L xs _ _ _ _ 43 [.ref 0, .int (nI kx1)] [.int (nI (hs_peg (h 5) c n))] (am_S b) h _
      refine wp_if rfl (fun (cq43 : ¬ (nI (hs_peg (h 5) c n)) = 0) => ?_) (fun (cq43 : ¬ (¬ (nI (hs_peg (h 5) c n)) = 0)) => ?_)
      · skip
        have cq43n : ¬ ((hs_peg (h 5) c n) = 0) := fun q => cq43 ((nI_eq (a := (hs_peg (h 5) c n)) (b := 0) (by omega) (by omega)).mpr q)
        refine wp_run 2 (pc' := 54) (ls' := [.ref 0, .int (nI kx1)]) (st' := [.int (nI kx1), .ref 0]) rfl ?_
        refine wp_callV (o := 0) (as := [.int (nI kx1)]) (rest := []) (els := [.ref 0, .int (nI kx1), am_du]) rfl rfl rfl rfl rfl rfl rfl rfl (by omega) ?_
        refine sp_letLeave HS (g := kx1) (by omega) (by omega) (fun v1 gz1 hp1 => ?_)
        obtain ⟨j1, hj1, ej1⟩ := pu_pick_some hp1 (fun q => cq43n (hs_peg_0 hc7 HS.2.2.2.2.2.2.2.2.2.2 q))
        subst ej1
        show am_wp L xs _ _ _ _ 57 [.ref 0, .int (nI kx1)] [.int (nI j1)] (am_S b) (am_u (am_ov h [17, 18, 47, 48] gz1) 5 kx1 (nI j1)) _
        refine wp_ret rfl ?_
        refine kk _ _ _ (fun ms2 Q2 kk2 => ?_)
        refine wp_run 2 (pc' := 2) (ls' := [.ref 74, .int (nI kx1), am_du]) (st' := [.int (nI kx1), .ref 74]) rfl ?_
        refine wp_callV (o := 74) (as := [.int (nI kx1)]) (rest := []) (els := [.ref 74, .int (nI kx1)]) rfl rfl rfl rfl rfl rfl rfl rfl (by omega) ?_
        refine sp_m_isGuest hm2 hn7 (by omega) (fun _ _ _ => ?_) (fun q => absurd rfl (q kx1 (by omega)))
        show am_wp L xs _ _ _ _ 5 [.ref 74, .int (nI kx1), am_du] [.int 1] (am_S b) (am_u (am_ov h [17, 18, 47, 48] gz1) 5 kx1 (nI j1)) _
        refine wp_if_t rfl (show ¬ (1 : Int32) = 0 from by decide) ?_
        refine wp_run 3 (pc' := 18) (ls' := [.ref 74, .int (nI kx1), am_du]) (st' := [.int 3, .int (nI kx1), .ref 74]) rfl ?_
        refine wp_callV (o := 74) (as := [.int (nI kx1), .int 3]) (rest := []) (els := [.ref 74, .int (nI kx1), .int 3]) rfl rfl rfl rfl rfl rfl rfl rfl (by omega) ?_
        refine sp_about (w := 3) (-1) ((re_hase H (by omega)).symm.trans cq27) (by omega) (by omega) ?_
        show am_wp L xs _ _ _ _ 21 [.ref 74, .int (nI kx1), am_du] [.int (-1)] (am_S b) (am_u (am_ov h [17, 18, 47, 48] gz1) 5 kx1 (nI j1)) _
        refine wp_if_t rfl (show ((-1) : Int32) < 0 from by decide) ?_
        refine wp_run 3 (pc' := 34) (ls' := [.ref 74, .int (nI kx1), am_du]) (st' := [.ref 74, .int (nI kx1), .ref 74]) rfl ?_
        refine wp_callV (o := 74) (as := []) (rest := [.int (nI kx1), .ref 74]) (els := [.ref 74, am_du, am_du]) rfl rfl rfl rfl rfl rfl rfl rfl (by omega) ?_
        refine sp_worn (h := (am_u (am_ov h [17, 18, 47, 48] gz1) 5 kx1 (nI j1))) (n := n) (c := c) hm2 hn7 hc7 HM.2.2.2.2.2.2.2.2 (by omega) ?_
        show am_wp L xs _ _ _ _ 37 [.ref 74, .int (nI kx1), am_du] [.int (nI (ms_worn (fun g => h 75 (7 + 4 * g + 3)) n)), .int (nI kx1), .ref 74] (am_S b) (am_u (am_ov h [17, 18, 47, 48] gz1) 5 kx1 (nI j1)) _
        refine wp_callV (o := 74) (as := [.int (nI kx1), .int (nI (ms_worn (fun g => h 75 (7 + 4 * g + 3)) n))]) (rest := []) (els := [.ref 74, .int (nI kx1), .int (nI (ms_worn (fun g => h 75 (7 + 4 * g + 3)) n)), am_du, am_du, am_du, am_du]) rfl rfl rfl rfl rfl rfl rfl rfl (by omega) ?_
        refine sp_getsOf (h := (am_u (am_ov h [17, 18, 47, 48] gz1) 5 kx1 (nI j1))) HM (P := (ms_worn (fun g => h 75 (7 + 4 * g + 3)) n)) (g := kx1) (ms_worn_lt hc7 n HM.2.2.2.2.2.2.2.2) (by omega) (by omega) (fun v2 gz2 hp2 => ?_)
        have ev : nI j1 = v2 := pu_pick_uniq hp1 hp2 (fun k hk => re_bits H hk) (fun k hk _ => (re_lk H hk (by omega)).symm)
        subst ev
        show am_wp L xs _ _ _ _ 40 [.ref 74, .int (nI kx1), am_du] [.int (nI j1)] (am_S b) (am_ov (am_u (am_ov h [17, 18, 47, 48] gz1) 5 kx1 (nI j1)) [83, 84] gz2) _
        refine wp_run 2 (pc' := 42) (ls' := [.ref 74, .int (nI kx1), .int (nI j1)]) (st' := [.int (nI j1)]) rfl ?_
        refine wp_if_t rfl (show 0 ≤ (nI j1) from (nI_leI (a := 0) (b := j1) (by omega) (by omega)).mpr (by omega)) ?_
        refine wp_run 3 (pc' := 55) (ls' := [.ref 74, .int (nI kx1), .int (nI j1)]) (st' := [.int (nI j1), .int (nI kx1), .ref 74]) rfl ?_
        refine wp_callV (o := 74) (as := [.int (nI kx1), .int (nI j1)]) (rest := []) (els := [.ref 74, .int (nI kx1), .int (nI j1)]) rfl rfl rfl rfl rfl rfl rfl rfl (by omega) ?_
        refine sp_puts (g := kx1) (by omega) ?_
        show am_wp L xs _ _ _ _ 58 [.ref 74, .int (nI kx1), .int (nI j1)] [] (am_S b) (am_u (am_ov (am_u (am_ov h [17, 18, 47, 48] gz1) 5 kx1 (nI j1)) [83, 84] gz2) 75 (7 + 4 * kx1 + 3) (nI j1)) _
        refine wp_run 1 (pc' := 59) (ls' := [.ref 74, .int (nI kx1), .int (nI j1)]) (st' := [.int (nI j1)]) rfl ?_
        refine wp_ret rfl ?_
        have Hn : re_house n c t tp wt s0 s1 p0 p1 (h 1) (h 2) (h 3) (h 4) (upd (h 5) kx1 (nI j1)) (h 6) (h 7) (h 8) (h 9) (h 10) (h 11) (h 12) (h 14) (h 15) (h 16) (h 19) (h 20) (h 21) (upd (h 75) (7 + 4 * kx1 + 3) (nI j1)) := by
          refine ⟨?_, ?_, ?_, ?_, ?_, ?_, ?_, ?_, ?_, ?_, ?_, ?_⟩
          · exact ⟨(show (h 1) 10 = h 1 10 from rfl).trans H.1.1, (show (upd (h 75) (7 + 4 * kx1 + 3) (nI j1)) 2 = h 75 2 from (if_neg (by omega))).trans H.1.2.1, H.1.2.2⟩
          · exact ⟨(show (h 1) 11 = h 1 11 from rfl).trans H.2.1.1, (show (upd (h 75) (7 + 4 * kx1 + 3) (nI j1)) 3 = h 75 3 from (if_neg (by omega))).trans H.2.1.2.1, H.2.1.2.2⟩
          · exact ⟨(show (h 1) 12 = h 1 12 from rfl).trans H.2.2.1.1, (show (upd (h 75) (7 + 4 * kx1 + 3) (nI j1)) 0 = h 75 0 from (if_neg (by omega))).trans H.2.2.1.2.1, H.2.2.1.2.2⟩
          · exact ⟨(show (h 1) 13 = h 1 13 from rfl).trans (H.2.2.2.1.1.trans (show (upd (h 75) (7 + 4 * kx1 + 3) (nI j1)) 4 = h 75 4 from (if_neg (by omega))).symm), (show (h 1) 14 = h 1 14 from rfl).trans (H.2.2.2.1.2.trans (show (upd (h 75) (7 + 4 * kx1 + 3) (nI j1)) 1 = h 75 1 from (if_neg (by omega))).symm)⟩
          · exact fun g hg => (Decidable.em (g = kx1)).elim (fun e => by rw [e]; exact ⟨(show (h 2) kx1 = h 2 kx1 from rfl).trans ((H.2.2.2.2.1 kx1 (by omega)).1.trans (show (upd (h 75) (7 + 4 * kx1 + 3) (nI j1)) (7 + 4 * kx1) = h 75 (7 + 4 * kx1) from (if_neg (by omega))).symm), (show (h 3) kx1 = h 3 kx1 from rfl).trans ((H.2.2.2.2.1 kx1 (by omega)).2.1.trans (show (upd (h 75) (7 + 4 * kx1 + 3) (nI j1)) (7 + 4 * kx1 + 1) = h 75 (7 + 4 * kx1 + 1) from (if_neg (by omega))).symm), (show (h 4) kx1 = h 4 kx1 from rfl).trans ((H.2.2.2.2.1 kx1 (by omega)).2.2.1.trans (show (upd (h 75) (7 + 4 * kx1 + 3) (nI j1)) (7 + 4 * kx1 + 2) = h 75 (7 + 4 * kx1 + 2) from (if_neg (by omega))).symm), (show (upd (h 5) kx1 (nI j1)) kx1 = (nI j1) from (if_pos (by omega))).trans (show (upd (h 75) (7 + 4 * kx1 + 3) (nI j1)) (7 + 4 * kx1 + 3) = (nI j1) from (if_pos (by omega))).symm⟩) (fun e => ⟨(show (h 2) g = h 2 g from rfl).trans ((H.2.2.2.2.1 g hg).1.trans (show (upd (h 75) (7 + 4 * kx1 + 3) (nI j1)) (7 + 4 * g) = h 75 (7 + 4 * g) from (if_neg (by omega))).symm), (show (h 3) g = h 3 g from rfl).trans ((H.2.2.2.2.1 g hg).2.1.trans (show (upd (h 75) (7 + 4 * kx1 + 3) (nI j1)) (7 + 4 * g + 1) = h 75 (7 + 4 * g + 1) from (if_neg (by omega))).symm), (show (h 4) g = h 4 g from rfl).trans ((H.2.2.2.2.1 g hg).2.2.1.trans (show (upd (h 75) (7 + 4 * kx1 + 3) (nI j1)) (7 + 4 * g + 2) = h 75 (7 + 4 * g + 2) from (if_neg (by omega))).symm), (show (upd (h 5) kx1 (nI j1)) g = h 5 g from (if_neg (by omega))).trans ((H.2.2.2.2.1 g hg).2.2.2.trans (show (upd (h 75) (7 + 4 * kx1 + 3) (nI j1)) (7 + 4 * g + 3) = h 75 (7 + 4 * g + 3) from (if_neg (by omega))).symm)⟩)
          · exact re_g6 (m2 := (upd (h 75) (7 + 4 * kx1 + 3) (nI j1))) H.2.2.2.2.2.1 (fun i h1 h2 => (if_neg (by omega)))
          · exact fun g hg => (Decidable.em (g = kx1)).elim (fun e => by rw [e]; exact ⟨(H.2.2.2.2.2.2.1 kx1 (by omega)).1, (H.2.2.2.2.2.2.1 kx1 (by omega)).2.1, (H.2.2.2.2.2.2.1 kx1 (by omega)).2.2.1, Or.inr ⟨j1, by omega, (show (upd (h 5) kx1 (nI j1)) kx1 = (nI j1) from (if_pos (by omega)))⟩⟩) (fun e => by obtain ⟨a1, a2, a3, q⟩ := H.2.2.2.2.2.2.1 g hg; exact ⟨a1, a2, a3, q.elim (fun q => Or.inl ((show (upd (h 5) kx1 (nI j1)) g = h 5 g from (if_neg (by omega))).trans q)) (fun ⟨j, hj, q⟩ => Or.inr ⟨j, hj, (show (upd (h 5) kx1 (nI j1)) g = h 5 g from (if_neg (by omega))).trans q⟩)⟩)
          · exact H.2.2.2.2.2.2.2.1
          · exact ⟨(show (h 9) 1 = h 9 1 from rfl).trans H.2.2.2.2.2.2.2.2.1.1, (show (upd (h 75) (7 + 4 * kx1 + 3) (nI j1)) 5 = h 75 5 from (if_neg (by omega))).trans H.2.2.2.2.2.2.2.2.1.2.1, H.2.2.2.2.2.2.2.2.1.2.2.1, re_g9 (m2 := (upd (h 75) (7 + 4 * kx1 + 3) (nI j1))) H.2.2.2.2.2.2.2.2.1.2.2.1 H.2.2.2.2.2.2.2.2.1.2.2.2 (fun i h1 h2 => (if_neg (by omega)))⟩
          · exact ⟨(show (h 11) 1 = h 11 1 from rfl).trans H.2.2.2.2.2.2.2.2.2.1.1, (show (upd (h 75) (7 + 4 * kx1 + 3) (nI j1)) 6 = h 75 6 from (if_neg (by omega))).trans H.2.2.2.2.2.2.2.2.2.1.2.1, H.2.2.2.2.2.2.2.2.2.1.2.2.1, re_g10 (m2 := (upd (h 75) (7 + 4 * kx1 + 3) (nI j1))) H.2.2.2.2.2.2.2.2.2.1.2.2.1 H.2.2.2.2.2.2.2.2.2.1.2.2.2 (fun i h1 h2 => (if_neg (by omega)))⟩
          · exact re_law_m (m2 := (upd (h 75) (7 + 4 * kx1 + 3) (nI j1))) H.2.2.2.2.2.2.2.2.2.2.1 (fun i h1 h2 => (if_neg (by omega)))
          · exact re_law_m (m2 := (upd (h 75) (7 + 4 * kx1 + 3) (nI j1))) H.2.2.2.2.2.2.2.2.2.2.2 (fun i h1 h2 => (if_neg (by omega)))
        exact kk2 _ _ ⟨⟨n, c, t, tp, wt, s0, s1, p0, p1, Hn⟩, re_im_s hI, hE, hS0, hS1, hS2, hS3, hT⟩
      · skip
        replace cq43 := Decidable.not_not.mp cq43
        have cq43n : (hs_peg (h 5) c n) = 0 := (nI_eq (a := (hs_peg (h 5) c n)) (b := 0) (by omega) (by omega)).mp cq43
        refine wp_run 2 (pc' := 48) (ls' := [.ref 0, .int (nI kx1)]) (st' := [.int 2, .ref 0]) rfl ?_
        refine wp_callV (o := 0) (as := [.int 2]) (rest := []) (els := [.ref 0, .int 2]) rfl rfl rfl rfl rfl rfl rfl rfl (by omega) ?_
        refine sp_refuse2 (by omega) ?_
        show am_wp L xs _ _ _ _ 51 [.ref 0, .int (nI kx1)] [.int (-1000000002)] (am_S b) (am_u h 73 2 (h 73 2 + 1)) _
        refine wp_ret rfl ?_
        refine kk _ _ _ (fun ms2 Q2 kk2 => ?_)
        refine wp_run 2 (pc' := 2) (ls' := [.ref 74, .int (nI kx1), am_du]) (st' := [.int (nI kx1), .ref 74]) rfl ?_
        refine wp_callV (o := 74) (as := [.int (nI kx1)]) (rest := []) (els := [.ref 74, .int (nI kx1)]) rfl rfl rfl rfl rfl rfl rfl rfl (by omega) ?_
        refine sp_m_isGuest hm2 hn7 (by omega) (fun _ _ _ => ?_) (fun q => absurd rfl (q kx1 (by omega)))
        show am_wp L xs _ _ _ _ 5 [.ref 74, .int (nI kx1), am_du] [.int 1] (am_S b) (am_u h 73 2 (h 73 2 + 1)) _
        refine wp_if_t rfl (show ¬ (1 : Int32) = 0 from by decide) ?_
        refine wp_run 3 (pc' := 18) (ls' := [.ref 74, .int (nI kx1), am_du]) (st' := [.int 3, .int (nI kx1), .ref 74]) rfl ?_
        refine wp_callV (o := 74) (as := [.int (nI kx1), .int 3]) (rest := []) (els := [.ref 74, .int (nI kx1), .int 3]) rfl rfl rfl rfl rfl rfl rfl rfl (by omega) ?_
        refine sp_about (w := 3) (-1) ((re_hase H (by omega)).symm.trans cq27) (by omega) (by omega) ?_
        show am_wp L xs _ _ _ _ 21 [.ref 74, .int (nI kx1), am_du] [.int (-1)] (am_S b) (am_u h 73 2 (h 73 2 + 1)) _
        refine wp_if_t rfl (show ((-1) : Int32) < 0 from by decide) ?_
        refine wp_run 3 (pc' := 34) (ls' := [.ref 74, .int (nI kx1), am_du]) (st' := [.ref 74, .int (nI kx1), .ref 74]) rfl ?_
        refine wp_callV (o := 74) (as := []) (rest := [.int (nI kx1), .ref 74]) (els := [.ref 74, am_du, am_du]) rfl rfl rfl rfl rfl rfl rfl rfl (by omega) ?_
        refine sp_worn (h := (am_u h 73 2 (h 73 2 + 1))) (n := n) (c := c) hm2 hn7 hc7 HM.2.2.2.2.2.2.2.2 (by omega) ?_
        show am_wp L xs _ _ _ _ 37 [.ref 74, .int (nI kx1), am_du] [.int (nI (ms_worn (fun g => h 75 (7 + 4 * g + 3)) n)), .int (nI kx1), .ref 74] (am_S b) (am_u h 73 2 (h 73 2 + 1)) _
        refine wp_callV (o := 74) (as := [.int (nI kx1), .int (nI (ms_worn (fun g => h 75 (7 + 4 * g + 3)) n))]) (rest := []) (els := [.ref 74, .int (nI kx1), .int (nI (ms_worn (fun g => h 75 (7 + 4 * g + 3)) n)), am_du, am_du, am_du, am_du]) rfl rfl rfl rfl rfl rfl rfl rfl (by omega) ?_
        refine sp_getsOf (h := (am_u h 73 2 (h 73 2 + 1))) HM (P := (ms_worn (fun g => h 75 (7 + 4 * g + 3)) n)) (g := kx1) (ms_worn_lt hc7 n HM.2.2.2.2.2.2.2.2) (by omega) (by omega) (fun v2 gz2 hp2 => ?_)
        have ev : v2 = -1 := pu_pick_none hp2 (fun k hk => (re_bits H hk).symm.trans (by rw [cq43n]; exact Nat.zero_testBit k))
        subst ev
        show am_wp L xs _ _ _ _ 40 [.ref 74, .int (nI kx1), am_du] [.int (-1)] (am_S b) (am_ov (am_u h 73 2 (h 73 2 + 1)) [83, 84] gz2) _
        refine wp_run 2 (pc' := 42) (ls' := [.ref 74, .int (nI kx1), .int (-1)]) (st' := [.int (-1)]) rfl ?_
        refine wp_if_f rfl (show ¬ (0 ≤ ((-1) : Int32)) from by decide) ?_
        refine wp_run 2 (pc' := 48) (ls' := [.ref 74, .int (nI kx1), .int (-1)]) (st' := [.int (-1000000002), .ref 74]) rfl ?_
        refine wp_callV (o := 74) (as := [.int (-1000000002)]) (rest := []) (els := [.ref 74, .int (-1000000002)]) rfl rfl rfl rfl rfl rfl rfl rfl (by omega) ?_
        refine sp_error2 ?_
        show am_wp L xs _ _ _ _ 51 [.ref 74, .int (nI kx1), .int (-1)] [.int (-1000000002)] (am_S b) (am_u (am_ov (am_u h 73 2 (h 73 2 + 1)) [83, 84] gz2) 77 2 ((am_ov (am_u h 73 2 (h 73 2 + 1)) [83, 84] gz2) 77 2 + 1)) _
        refine wp_ret rfl ?_
        exact kk2 _ _ (re_err2 hR)
    · skip
      refine wp_run 2 (pc' := 32) (ls' := [.ref 0, .int (nI kx1)]) (st' := [.int 3, .ref 0]) rfl ?_
      refine wp_callV (o := 0) (as := [.int 3]) (rest := []) (els := [.ref 0, .int 3]) rfl rfl rfl rfl rfl rfl rfl rfl (by omega) ?_
      refine sp_refuse3 (by omega) ?_
      show am_wp L xs _ _ _ _ 35 [.ref 0, .int (nI kx1)] [.int (-1000000003)] (am_S b) (am_u h 73 3 (h 73 3 + 1)) _
      refine wp_ret rfl ?_
      refine kk _ _ _ (fun ms2 Q2 kk2 => ?_)
      obtain ⟨j9, hj9, ej9⟩ := (H.2.2.2.2.2.2.1 kx1 (by omega)).2.2.2.resolve_left cq27
      refine wp_run 2 (pc' := 2) (ls' := [.ref 74, .int (nI kx1), am_du]) (st' := [.int (nI kx1), .ref 74]) rfl ?_
      refine wp_callV (o := 74) (as := [.int (nI kx1)]) (rest := []) (els := [.ref 74, .int (nI kx1)]) rfl rfl rfl rfl rfl rfl rfl rfl (by omega) ?_
      refine sp_m_isGuest hm2 hn7 (by omega) (fun _ _ _ => ?_) (fun q => absurd rfl (q kx1 (by omega)))
      show am_wp L xs _ _ _ _ 5 [.ref 74, .int (nI kx1), am_du] [.int 1] (am_S b) (am_u h 73 3 (h 73 3 + 1)) _
      refine wp_if_t rfl (show ¬ (1 : Int32) = 0 from by decide) ?_
      refine wp_run 3 (pc' := 18) (ls' := [.ref 74, .int (nI kx1), am_du]) (st' := [.int 3, .int (nI kx1), .ref 74]) rfl ?_
      refine wp_callV (o := 74) (as := [.int (nI kx1), .int 3]) (rest := []) (els := [.ref 74, .int (nI kx1), .int 3]) rfl rfl rfl rfl rfl rfl rfl rfl (by omega) ?_
      refine sp_about (w := 3) (nI j9) ((re_hase H (by omega)).symm.trans ej9) (by omega) (by omega) ?_
      show am_wp L xs _ _ _ _ 21 [.ref 74, .int (nI kx1), am_du] [.int (nI j9)] (am_S b) (am_u h 73 3 (h 73 3 + 1)) _
      refine wp_if_f rfl (show ¬ ((nI j9) < 0) from mt (nI_ltI (a := j9) (b := 0) (by omega) (by omega)).mp (by omega)) ?_
      refine wp_run 2 (pc' := 27) (ls' := [.ref 74, .int (nI kx1), am_du]) (st' := [.int (-1000000003), .ref 74]) rfl ?_
      refine wp_callV (o := 74) (as := [.int (-1000000003)]) (rest := []) (els := [.ref 74, .int (-1000000003)]) rfl rfl rfl rfl rfl rfl rfl rfl (by omega) ?_
      refine sp_error3 ?_
      show am_wp L xs _ _ _ _ 30 [.ref 74, .int (nI kx1), am_du] [.int (-1000000003)] (am_S b) (am_u (am_u h 73 3 (h 73 3 + 1)) 77 3 ((am_u h 73 3 (h 73 3 + 1)) 77 3 + 1)) _
      refine wp_ret rfl ?_
      exact kk2 _ _ (re_err3 hR)
  · skip
    intro hnx1
    show am_wp L xs _ _ _ _ 8 [.ref 0, .int x1] [.int 0] (am_S b) h _
    refine wp_if_f rfl (show ¬ (¬ (0 : Int32) = 0) from by decide) ?_
    refine wp_run 2 (pc' := 13) (ls' := [.ref 0, .int x1]) (st' := [.int 1, .ref 0]) rfl ?_
    refine wp_callV (o := 0) (as := [.int 1]) (rest := []) (els := [.ref 0, .int 1]) rfl rfl rfl rfl rfl rfl rfl rfl (by omega) ?_
    refine sp_refuse1 (by omega) ?_
    show am_wp L xs _ _ _ _ 16 [.ref 0, .int x1] [.int (-1000000001)] (am_S b) (am_u h 73 1 (h 73 1 + 1)) _
    refine wp_ret rfl ?_
    refine kk _ _ _ (fun ms2 Q2 kk2 => ?_)
    refine wp_run 2 (pc' := 2) (ls' := [.ref 74, .int x1, am_du]) (st' := [.int x1, .ref 74]) rfl ?_
    refine wp_callV (o := 74) (as := [.int x1]) (rest := []) (els := [.ref 74, .int x1]) rfl rfl rfl rfl rfl rfl rfl rfl (by omega) ?_
    refine sp_m_isGuest hm2 hn7 (by omega) (fun k hk e => absurd e (hnx1 k hk)) (fun _ => ?_)
    show am_wp L xs _ _ _ _ 5 [.ref 74, .int x1, am_du] [.int 0] (am_S b) (am_u h 73 1 (h 73 1 + 1)) _
    refine wp_if_f rfl (show ¬ (¬ (0 : Int32) = 0) from by decide) ?_
    refine wp_run 2 (pc' := 11) (ls' := [.ref 74, .int x1, am_du]) (st' := [.int (-1000000001), .ref 74]) rfl ?_
    refine wp_callV (o := 74) (as := [.int (-1000000001)]) (rest := []) (els := [.ref 74, .int (-1000000001)]) rfl rfl rfl rfl rfl rfl rfl rfl (by omega) ?_
    refine sp_error1 ?_
    show am_wp L xs _ _ _ _ 14 [.ref 74, .int x1, am_du] [.int (-1000000001)] (am_S b) (am_u (am_u h 73 1 (h 73 1 + 1)) 77 1 ((am_u h 73 1 (h 73 1 + 1)) 77 1 + 1)) _
    refine wp_ret rfl ?_
    exact kk2 _ _ (re_err1 hR)
