/-! calls tied: guest, coat, become, wears, as -/
theorem op_guest {L : Nat} {xs : Nat → Int32} {d ms b N : Nat} {h : am_HI} {Q : am_Q} {x1 : Int32} {x2 : Int32} {x3 : Int32} (hd : 30 ≤ d) (hR : am_Rel N h) (hN : N < 100000)
    (kk : ∀ v b1 h1, (∀ ms2 Q2, (∀ b2 h2, am_Rel (N + 1) h2 → Q2 (some (.int v)) (am_S b2) h2) → am_wp L xs d 0 ms2 130 0 [.ref 74, .int x1, .int x2, .int x3, am_du] [] (am_S b1) h1 Q2) → Q (some (.int v)) (am_S b1) h1) :
    am_wp L xs d 0 ms 10 0 [.ref 0, .int x1, .int x2, .int x3] [] (am_S b) h Q := by
  obtain ⟨⟨n, c, t, tp, wt, s0, s1, p0, p1, H⟩, hI, hE, hS0, hS1, hS2, hS3, hT⟩ := id hR
  have hn := H.1.1
  have hm2 := H.1.2.1
  have hn7 := H.1.2.2
  have hc := H.2.1.1
  have hm3 := H.2.1.2.1
  have hc7 := H.2.1.2.2
  have ht := H.2.2.1.1
  have hm0 := H.2.2.1.2.1
  have ht9 := H.2.2.1.2.2
  have HS := re_hs H
  have HM := re_ms H
  refine wp_run 3 (pc' := 4) (ls' := [.ref 0, .int x1, .int x2, .int x3]) (st' := [.int 9, .int 0, .int x1]) rfl ?_
  refine wp_callS (as := [.int x1, .int 0, .int 9]) (rest := []) (els := [.int x1, .int 0, .int 9]) rfl rfl rfl rfl rfl rfl rfl rfl (by omega) ?_
  refine sp_x_within0 (m := 9) rfl rfl ?_ ?_
  · skip
    intro kx1 hkx1 ex1
    subst ex1
    show am_wp L xs _ _ _ _ 7 [.ref 0, .int (nI kx1), .int x2, .int x3] [.int 1] (am_S b) h _
    refine wp_if_f rfl (show ¬ ((1 : Int32) = 0) from by decide) ?_
    refine wp_run 3 (pc' := 14) (ls' := [.ref 0, .int (nI kx1), .int x2, .int x3]) (st' := [.int 9, .int 0, .int x2]) rfl ?_
    refine wp_callS (as := [.int x2, .int 0, .int 9]) (rest := []) (els := [.int x2, .int 0, .int 9]) rfl rfl rfl rfl rfl rfl rfl rfl (by omega) ?_
    refine sp_x_within0 (m := 9) rfl rfl ?_ ?_
    · skip
      intro kx2 hkx2 ex2
      subst ex2
      show am_wp L xs _ _ _ _ 17 [.ref 0, .int (nI kx1), .int (nI kx2), .int x3] [.int 1] (am_S b) h _
      refine wp_if_f rfl (show ¬ ((1 : Int32) = 0) from by decide) ?_
      refine wp_run 3 (pc' := 23) (ls' := [.ref 0, .int (nI kx1), .int (nI kx2), .int x3]) (st' := [.int 3, .int 0, .int x3]) rfl ?_
      refine wp_callS (as := [.int x3, .int 0, .int 3]) (rest := []) (els := [.int x3, .int 0, .int 3]) rfl rfl rfl rfl rfl rfl rfl rfl (by omega) ?_
      refine sp_x_within0 (m := 3) rfl rfl ?_ ?_
      · skip
        intro kx3 hkx3 ex3
        subst ex3
        show am_wp L xs _ _ _ _ 26 [.ref 0, .int (nI kx1), .int (nI kx2), .int (nI kx3)] [.int 1] (am_S b) h _
        refine wp_if_t rfl (show ¬ (1 : Int32) = 0 from by decide) ?_
        refine wp_run 1 (pc' := 36) (ls' := [.ref 0, .int (nI kx1), .int (nI kx2), .int (nI kx3)]) (st' := [.ref 0]) rfl ?_
        refine wp_getr 1 rfl rfl rfl ?_
        refine wp_geti (a := 10) (nI n) hn rfl rfl rfl ?_
        refine wp_run 1 (pc' := 44) (ls' := [.ref 0, .int (nI kx1), .int (nI kx2), .int (nI kx3)]) (st' := [.int 7, .int (nI n)]) rfl ?_
        refine wp_icmp rfl (fun (cq44 : (nI n) < 7) => ?_) (fun (cq44 : ¬ ((nI n) < 7)) => ?_)
        · skip
          have cq44n : n < 7 := (nI_ltI (a := n) (b := 7) (by omega) (by omega)).mp cq44
          refine wp_run 1 (pc' := 54) (ls' := [.ref 0, .int (nI kx1), .int (nI kx2), .int (nI kx3)]) (st' := [.ref 0]) rfl ?_
          refine wp_getr 1 rfl rfl rfl ?_
          refine wp_run 3 (pc' := 60) (ls' := [.ref 0, .int (nI kx1), .int (nI kx2), .int (nI kx3)]) (st' := [.int (nI kx3), .int (nI kx2), .int (nI kx1), .ref 1]) rfl ?_
          refine wp_callV (o := 1) (as := [.int (nI kx1), .int (nI kx2), .int (nI kx3)]) (rest := []) (els := [.ref 1, .int (nI kx1), .int (nI kx2), .int (nI kx3), am_du]) rfl rfl rfl rfl rfl rfl rfl rfl (by omega) ?_
          refine sp_addGuest (n := n) hn (by omega) ?_
          show am_wp L xs _ _ _ _ 63 [.ref 0, .int (nI kx1), .int (nI kx2), .int (nI kx3)] [.int (nI n)] (am_S b) (am_u (am_u (am_u (am_u (am_u h 2 n (nI kx1)) 3 n (nI kx2)) 4 n (nI kx3)) 5 n (-1)) 1 10 (nI (n + 1))) _
          refine wp_ret rfl ?_
          refine kk _ _ _ (fun ms2 Q2 kk2 => ?_)
          refine wp_run 3 (pc' := 4) (ls' := [.ref 74, .int (nI kx1), .int (nI kx2), .int (nI kx3), am_du]) (st' := [.int 9, .int 0, .int (nI kx1)]) rfl ?_
          refine wp_callS (as := [.int (nI kx1), .int 0, .int 9]) (rest := []) (els := [.int (nI kx1), .int 0, .int 9]) rfl rfl rfl rfl rfl rfl rfl rfl (by omega) ?_
          refine sp_m_in0 (m := 9) rfl rfl (fun _ _ _ => ?_) (fun q => absurd rfl (q kx1 (by omega)))
          show am_wp L xs _ _ _ _ 7 [.ref 74, .int (nI kx1), .int (nI kx2), .int (nI kx3), am_du] [.int 1] (am_S b) (am_u (am_u (am_u (am_u (am_u h 2 n (nI kx1)) 3 n (nI kx2)) 4 n (nI kx3)) 5 n (-1)) 1 10 (nI (n + 1))) _
          refine wp_if_f rfl (show ¬ ((1 : Int32) = 0) from by decide) ?_
          refine wp_run 3 (pc' := 14) (ls' := [.ref 74, .int (nI kx1), .int (nI kx2), .int (nI kx3), am_du]) (st' := [.int 9, .int 0, .int (nI kx2)]) rfl ?_
          refine wp_callS (as := [.int (nI kx2), .int 0, .int 9]) (rest := []) (els := [.int (nI kx2), .int 0, .int 9]) rfl rfl rfl rfl rfl rfl rfl rfl (by omega) ?_
          refine sp_m_in0 (m := 9) rfl rfl (fun _ _ _ => ?_) (fun q => absurd rfl (q kx2 (by omega)))
          show am_wp L xs _ _ _ _ 17 [.ref 74, .int (nI kx1), .int (nI kx2), .int (nI kx3), am_du] [.int 1] (am_S b) (am_u (am_u (am_u (am_u (am_u h 2 n (nI kx1)) 3 n (nI kx2)) 4 n (nI kx3)) 5 n (-1)) 1 10 (nI (n + 1))) _
          refine wp_if_f rfl (show ¬ ((1 : Int32) = 0) from by decide) ?_
          refine wp_run 3 (pc' := 23) (ls' := [.ref 74, .int (nI kx1), .int (nI kx2), .int (nI kx3), am_du]) (st' := [.int 3, .int 0, .int (nI kx3)]) rfl ?_
          refine wp_callS (as := [.int (nI kx3), .int 0, .int 3]) (rest := []) (els := [.int (nI kx3), .int 0, .int 3]) rfl rfl rfl rfl rfl rfl rfl rfl (by omega) ?_
          refine sp_m_in0 (m := 3) rfl rfl (fun _ _ _ => ?_) (fun q => absurd rfl (q kx3 (by omega)))
          show am_wp L xs _ _ _ _ 26 [.ref 74, .int (nI kx1), .int (nI kx2), .int (nI kx3), am_du] [.int 1] (am_S b) (am_u (am_u (am_u (am_u (am_u h 2 n (nI kx1)) 3 n (nI kx2)) 4 n (nI kx3)) 5 n (-1)) 1 10 (nI (n + 1))) _
          refine wp_if_t rfl (show ¬ (1 : Int32) = 0 from by decide) ?_
          refine wp_run 1 (pc' := 37) (ls' := [.ref 74, .int (nI kx1), .int (nI kx2), .int (nI kx3), am_du]) (st' := [.ref 74]) rfl ?_
          refine wp_getr 75 rfl rfl rfl ?_
          refine wp_run 1 (pc' := 41) (ls' := [.ref 74, .int (nI kx1), .int (nI kx2), .int (nI kx3), am_du]) (st' := [.int 2, .ref 75]) rfl ?_
          refine wp_ald (i := 2) (nI n) hm2 rfl rfl rfl (by decide) rfl ?_
          refine wp_run 3 (pc' := 48) (ls' := [.ref 74, .int (nI kx1), .int (nI kx2), .int (nI kx3), .int (nI n)]) (st' := [.int 7, .int (nI n)]) rfl ?_
          refine wp_icmp_t rfl (show ¬ (nI n) = 7 from mt (nI_eq (a := n) (b := 7) (by omega) (by omega)).mp (by omega)) ?_
          refine wp_run 1 (pc' := 59) (ls' := [.ref 74, .int (nI kx1), .int (nI kx2), .int (nI kx3), .int (nI n)]) (st' := [.ref 74]) rfl ?_
          refine wp_getr 75 rfl rfl rfl ?_
          refine wp_run 2 (pc' := 64) (ls' := [.ref 74, .int (nI kx1), .int (nI kx2), .int (nI kx3), .int (nI n)]) (st' := [.int 2, .ref 75, .int 2, .ref 75]) rfl ?_
          refine wp_ald (i := 2) (nI n) hm2 rfl rfl rfl (by decide) rfl ?_
          refine wp_run 2 (pc' := 67) (ls' := [.ref 74, .int (nI kx1), .int (nI kx2), .int (nI kx3), .int (nI n)]) (st' := [.int ((nI n) + 1), .int 2, .ref 75]) rfl ?_
          rw [show (((nI n) + 1) : Int32) = (nI (n + 1)) from nI_add n 1]
          refine wp_ast rfl rfl rfl (by decide) rfl ?_
          refine wp_run 1 (pc' := 69) (ls' := [.ref 74, .int (nI kx1), .int (nI kx2), .int (nI kx3), .int (nI n)]) (st' := [.ref 74]) rfl ?_
          refine wp_getr 75 rfl rfl rfl ?_
          refine wp_run 6 (pc' := 80) (ls' := [.ref 74, .int (nI kx1), .int (nI kx2), .int (nI kx3), .int (nI n)]) (st' := [.int (nI kx1), .int (7 + (4 * (nI n))), .ref 75]) rfl ?_
          rw [show ((4 * (nI n)) : Int32) = (nI (4 * n)) from pk_mul 4 n]
          rw [show ((7 + (nI (4 * n))) : Int32) = (nI (7 + (4 * n))) from nI_add 7 (4 * n)]
          refine wp_ast rfl rfl rfl (by omega) rfl ?_
          refine wp_run 1 (pc' := 82) (ls' := [.ref 74, .int (nI kx1), .int (nI kx2), .int (nI kx3), .int (nI n)]) (st' := [.ref 74]) rfl ?_
          refine wp_getr 75 rfl rfl rfl ?_
          refine wp_run 8 (pc' := 95) (ls' := [.ref 74, .int (nI kx1), .int (nI kx2), .int (nI kx3), .int (nI n)]) (st' := [.int (nI kx2), .int ((7 + (4 * (nI n))) + 1), .ref 75]) rfl ?_
          rw [show ((4 * (nI n)) : Int32) = (nI (4 * n)) from pk_mul 4 n]
          rw [show ((7 + (nI (4 * n))) : Int32) = (nI (7 + (4 * n))) from nI_add 7 (4 * n)]
          rw [show (((nI (7 + (4 * n))) + 1) : Int32) = (nI ((7 + (4 * n)) + 1)) from nI_add (7 + (4 * n)) 1]
          refine wp_ast rfl rfl rfl (by omega) rfl ?_
          refine wp_run 1 (pc' := 97) (ls' := [.ref 74, .int (nI kx1), .int (nI kx2), .int (nI kx3), .int (nI n)]) (st' := [.ref 74]) rfl ?_
          refine wp_getr 75 rfl rfl rfl ?_
          refine wp_run 8 (pc' := 110) (ls' := [.ref 74, .int (nI kx1), .int (nI kx2), .int (nI kx3), .int (nI n)]) (st' := [.int (nI kx3), .int ((7 + (4 * (nI n))) + 2), .ref 75]) rfl ?_
          rw [show ((4 * (nI n)) : Int32) = (nI (4 * n)) from pk_mul 4 n]
          rw [show ((7 + (nI (4 * n))) : Int32) = (nI (7 + (4 * n))) from nI_add 7 (4 * n)]
          rw [show (((nI (7 + (4 * n))) + 2) : Int32) = (nI ((7 + (4 * n)) + 2)) from nI_add (7 + (4 * n)) 2]
          refine wp_ast rfl rfl rfl (by omega) rfl ?_
          refine wp_run 3 (pc' := 115) (ls' := [.ref 74, .int (nI kx1), .int (nI kx2), .int (nI kx3), .int (nI n)]) (st' := [.int (-1), .int (nI n), .ref 74]) rfl ?_
          refine wp_callV (o := 74) (as := [.int (nI n), .int (-1)]) (rest := []) (els := [.ref 74, .int (nI n), .int (-1)]) rfl rfl rfl rfl rfl rfl rfl rfl (by omega) ?_
          refine sp_puts (g := n) (by omega) ?_
          show am_wp L xs _ _ _ _ 118 [.ref 74, .int (nI kx1), .int (nI kx2), .int (nI kx3), .int (nI n)] [] (am_S b) (am_u (am_u (am_u (am_u (am_u (am_u (am_u (am_u (am_u (am_u h 2 n (nI kx1)) 3 n (nI kx2)) 4 n (nI kx3)) 5 n (-1)) 1 10 (nI (n + 1))) 75 2 (nI (n + 1))) 75 (7 + (4 * n)) (nI kx1)) 75 ((7 + (4 * n)) + 1) (nI kx2)) 75 ((7 + (4 * n)) + 2) (nI kx3)) 75 (7 + 4 * n + 3) (-1)) _
          refine wp_run 1 (pc' := 120) (ls' := [.ref 74, .int (nI kx1), .int (nI kx2), .int (nI kx3), .int (nI n)]) (st' := [.int (nI n)]) rfl ?_
          refine wp_ret rfl ?_
          have Hn : re_house (n + 1) c t tp wt s0 s1 p0 p1 (upd (h 1) 10 (nI (n + 1))) (upd (h 2) n (nI kx1)) (upd (h 3) n (nI kx2)) (upd (h 4) n (nI kx3)) (upd (h 5) n (-1)) (h 6) (h 7) (h 8) (h 9) (h 10) (h 11) (h 12) (h 14) (h 15) (h 16) (h 19) (h 20) (h 21) (upd (upd (upd (upd (upd (h 75) 2 (nI (n + 1))) (7 + (4 * n)) (nI kx1)) ((7 + (4 * n)) + 1) (nI kx2)) ((7 + (4 * n)) + 2) (nI kx3)) (7 + 4 * n + 3) (-1)) := by
            refine ⟨?_, ?_, ?_, ?_, ?_, ?_, ?_, ?_, ?_, ?_, ?_, ?_⟩
            · exact ⟨(show (upd (h 1) 10 (nI (n + 1))) 10 = (nI (n + 1)) from (if_pos (by omega))), (show (upd (upd (upd (upd (upd (h 75) 2 (nI (n + 1))) (7 + (4 * n)) (nI kx1)) ((7 + (4 * n)) + 1) (nI kx2)) ((7 + (4 * n)) + 2) (nI kx3)) (7 + 4 * n + 3) (-1)) 2 = (nI (n + 1)) from ((if_neg (by omega)).trans ((if_neg (by omega)).trans ((if_neg (by omega)).trans ((if_neg (by omega)).trans (if_pos (by omega))))))), by omega⟩
            · exact ⟨(show (upd (h 1) 10 (nI (n + 1))) 11 = h 1 11 from (if_neg (by omega))).trans H.2.1.1, (show (upd (upd (upd (upd (upd (h 75) 2 (nI (n + 1))) (7 + (4 * n)) (nI kx1)) ((7 + (4 * n)) + 1) (nI kx2)) ((7 + (4 * n)) + 2) (nI kx3)) (7 + 4 * n + 3) (-1)) 3 = h 75 3 from ((if_neg (by omega)).trans ((if_neg (by omega)).trans ((if_neg (by omega)).trans ((if_neg (by omega)).trans (if_neg (by omega))))))).trans H.2.1.2.1, H.2.1.2.2⟩
            · exact ⟨(show (upd (h 1) 10 (nI (n + 1))) 12 = h 1 12 from (if_neg (by omega))).trans H.2.2.1.1, (show (upd (upd (upd (upd (upd (h 75) 2 (nI (n + 1))) (7 + (4 * n)) (nI kx1)) ((7 + (4 * n)) + 1) (nI kx2)) ((7 + (4 * n)) + 2) (nI kx3)) (7 + 4 * n + 3) (-1)) 0 = h 75 0 from ((if_neg (by omega)).trans ((if_neg (by omega)).trans ((if_neg (by omega)).trans ((if_neg (by omega)).trans (if_neg (by omega))))))).trans H.2.2.1.2.1, H.2.2.1.2.2⟩
            · exact ⟨(show (upd (h 1) 10 (nI (n + 1))) 13 = h 1 13 from (if_neg (by omega))).trans (H.2.2.2.1.1.trans (show (upd (upd (upd (upd (upd (h 75) 2 (nI (n + 1))) (7 + (4 * n)) (nI kx1)) ((7 + (4 * n)) + 1) (nI kx2)) ((7 + (4 * n)) + 2) (nI kx3)) (7 + 4 * n + 3) (-1)) 4 = h 75 4 from ((if_neg (by omega)).trans ((if_neg (by omega)).trans ((if_neg (by omega)).trans ((if_neg (by omega)).trans (if_neg (by omega))))))).symm), (show (upd (h 1) 10 (nI (n + 1))) 14 = h 1 14 from (if_neg (by omega))).trans (H.2.2.2.1.2.trans (show (upd (upd (upd (upd (upd (h 75) 2 (nI (n + 1))) (7 + (4 * n)) (nI kx1)) ((7 + (4 * n)) + 1) (nI kx2)) ((7 + (4 * n)) + 2) (nI kx3)) (7 + 4 * n + 3) (-1)) 1 = h 75 1 from ((if_neg (by omega)).trans ((if_neg (by omega)).trans ((if_neg (by omega)).trans ((if_neg (by omega)).trans (if_neg (by omega))))))).symm)⟩
            · exact fun g hg => (Decidable.em (g = n)).elim (fun e => by rw [e]; exact ⟨(show (upd (h 2) n (nI kx1)) n = (nI kx1) from (if_pos (by omega))).trans (show (upd (upd (upd (upd (upd (h 75) 2 (nI (n + 1))) (7 + (4 * n)) (nI kx1)) ((7 + (4 * n)) + 1) (nI kx2)) ((7 + (4 * n)) + 2) (nI kx3)) (7 + 4 * n + 3) (-1)) (7 + 4 * n) = (nI kx1) from ((if_neg (by omega)).trans ((if_neg (by omega)).trans ((if_neg (by omega)).trans (if_pos (by omega)))))).symm, (show (upd (h 3) n (nI kx2)) n = (nI kx2) from (if_pos (by omega))).trans (show (upd (upd (upd (upd (upd (h 75) 2 (nI (n + 1))) (7 + (4 * n)) (nI kx1)) ((7 + (4 * n)) + 1) (nI kx2)) ((7 + (4 * n)) + 2) (nI kx3)) (7 + 4 * n + 3) (-1)) (7 + 4 * n + 1) = (nI kx2) from ((if_neg (by omega)).trans ((if_neg (by omega)).trans (if_pos (by omega))))).symm, (show (upd (h 4) n (nI kx3)) n = (nI kx3) from (if_pos (by omega))).trans (show (upd (upd (upd (upd (upd (h 75) 2 (nI (n + 1))) (7 + (4 * n)) (nI kx1)) ((7 + (4 * n)) + 1) (nI kx2)) ((7 + (4 * n)) + 2) (nI kx3)) (7 + 4 * n + 3) (-1)) (7 + 4 * n + 2) = (nI kx3) from ((if_neg (by omega)).trans (if_pos (by omega)))).symm, (show (upd (h 5) n (-1)) n = (-1) from (if_pos (by omega))).trans (show (upd (upd (upd (upd (upd (h 75) 2 (nI (n + 1))) (7 + (4 * n)) (nI kx1)) ((7 + (4 * n)) + 1) (nI kx2)) ((7 + (4 * n)) + 2) (nI kx3)) (7 + 4 * n + 3) (-1)) (7 + 4 * n + 3) = (-1) from (if_pos (by omega))).symm⟩) (fun e => ⟨(show (upd (h 2) n (nI kx1)) g = h 2 g from (if_neg (by omega))).trans ((H.2.2.2.2.1 g hg).1.trans (show (upd (upd (upd (upd (upd (h 75) 2 (nI (n + 1))) (7 + (4 * n)) (nI kx1)) ((7 + (4 * n)) + 1) (nI kx2)) ((7 + (4 * n)) + 2) (nI kx3)) (7 + 4 * n + 3) (-1)) (7 + 4 * g) = h 75 (7 + 4 * g) from ((if_neg (by omega)).trans ((if_neg (by omega)).trans ((if_neg (by omega)).trans ((if_neg (by omega)).trans (if_neg (by omega))))))).symm), (show (upd (h 3) n (nI kx2)) g = h 3 g from (if_neg (by omega))).trans ((H.2.2.2.2.1 g hg).2.1.trans (show (upd (upd (upd (upd (upd (h 75) 2 (nI (n + 1))) (7 + (4 * n)) (nI kx1)) ((7 + (4 * n)) + 1) (nI kx2)) ((7 + (4 * n)) + 2) (nI kx3)) (7 + 4 * n + 3) (-1)) (7 + 4 * g + 1) = h 75 (7 + 4 * g + 1) from ((if_neg (by omega)).trans ((if_neg (by omega)).trans ((if_neg (by omega)).trans ((if_neg (by omega)).trans (if_neg (by omega))))))).symm), (show (upd (h 4) n (nI kx3)) g = h 4 g from (if_neg (by omega))).trans ((H.2.2.2.2.1 g hg).2.2.1.trans (show (upd (upd (upd (upd (upd (h 75) 2 (nI (n + 1))) (7 + (4 * n)) (nI kx1)) ((7 + (4 * n)) + 1) (nI kx2)) ((7 + (4 * n)) + 2) (nI kx3)) (7 + 4 * n + 3) (-1)) (7 + 4 * g + 2) = h 75 (7 + 4 * g + 2) from ((if_neg (by omega)).trans ((if_neg (by omega)).trans ((if_neg (by omega)).trans ((if_neg (by omega)).trans (if_neg (by omega))))))).symm), (show (upd (h 5) n (-1)) g = h 5 g from (if_neg (by omega))).trans ((H.2.2.2.2.1 g hg).2.2.2.trans (show (upd (upd (upd (upd (upd (h 75) 2 (nI (n + 1))) (7 + (4 * n)) (nI kx1)) ((7 + (4 * n)) + 1) (nI kx2)) ((7 + (4 * n)) + 2) (nI kx3)) (7 + 4 * n + 3) (-1)) (7 + 4 * g + 3) = h 75 (7 + 4 * g + 3) from ((if_neg (by omega)).trans ((if_neg (by omega)).trans ((if_neg (by omega)).trans ((if_neg (by omega)).trans (if_neg (by omega))))))).symm)⟩)
            · exact re_g6 (m2 := (upd (upd (upd (upd (upd (h 75) 2 (nI (n + 1))) (7 + (4 * n)) (nI kx1)) ((7 + (4 * n)) + 1) (nI kx2)) ((7 + (4 * n)) + 2) (nI kx3)) (7 + 4 * n + 3) (-1))) H.2.2.2.2.2.1 (fun i h1 h2 => ((if_neg (by omega)).trans ((if_neg (by omega)).trans ((if_neg (by omega)).trans ((if_neg (by omega)).trans (if_neg (by omega)))))))
            · exact fun g hg => (Decidable.em (g = n)).elim (fun e => by rw [e]; exact ⟨⟨kx1, by omega, (show (upd (h 2) n (nI kx1)) n = (nI kx1) from (if_pos (by omega)))⟩, ⟨kx2, by omega, (show (upd (h 3) n (nI kx2)) n = (nI kx2) from (if_pos (by omega)))⟩, ⟨kx3, by omega, (show (upd (h 4) n (nI kx3)) n = (nI kx3) from (if_pos (by omega)))⟩, Or.inl (show (upd (h 5) n (-1)) n = (-1) from (if_pos (by omega)))⟩) (fun e => by obtain ⟨⟨a1, a2, a3⟩, ⟨a4, a5, a6⟩, ⟨a7, a8, a9⟩, q⟩ := H.2.2.2.2.2.2.1 g (by omega); exact ⟨⟨a1, a2, (show (upd (h 2) n (nI kx1)) g = h 2 g from (if_neg (by omega))).trans a3⟩, ⟨a4, a5, (show (upd (h 3) n (nI kx2)) g = h 3 g from (if_neg (by omega))).trans a6⟩, ⟨a7, a8, (show (upd (h 4) n (nI kx3)) g = h 4 g from (if_neg (by omega))).trans a9⟩, q.elim (fun q => Or.inl ((show (upd (h 5) n (-1)) g = h 5 g from (if_neg (by omega))).trans q)) (fun ⟨j, hj, q⟩ => Or.inr ⟨j, hj, (show (upd (h 5) n (-1)) g = h 5 g from (if_neg (by omega))).trans q⟩)⟩)
            · exact fun j hj => by obtain ⟨q1, q2, q3⟩ := H.2.2.2.2.2.2.2.1 j hj; exact ⟨q1, q2, q3.elim Or.inl (fun ⟨g, hg, q⟩ => Or.inr ⟨g, by omega, q⟩)⟩
            · exact ⟨(show (h 9) 1 = h 9 1 from rfl).trans H.2.2.2.2.2.2.2.2.1.1, (show (upd (upd (upd (upd (upd (h 75) 2 (nI (n + 1))) (7 + (4 * n)) (nI kx1)) ((7 + (4 * n)) + 1) (nI kx2)) ((7 + (4 * n)) + 2) (nI kx3)) (7 + 4 * n + 3) (-1)) 5 = h 75 5 from ((if_neg (by omega)).trans ((if_neg (by omega)).trans ((if_neg (by omega)).trans ((if_neg (by omega)).trans (if_neg (by omega))))))).trans H.2.2.2.2.2.2.2.2.1.2.1, H.2.2.2.2.2.2.2.2.1.2.2.1, re_g9 (m2 := (upd (upd (upd (upd (upd (h 75) 2 (nI (n + 1))) (7 + (4 * n)) (nI kx1)) ((7 + (4 * n)) + 1) (nI kx2)) ((7 + (4 * n)) + 2) (nI kx3)) (7 + 4 * n + 3) (-1))) H.2.2.2.2.2.2.2.2.1.2.2.1 H.2.2.2.2.2.2.2.2.1.2.2.2 (fun i h1 h2 => ((if_neg (by omega)).trans ((if_neg (by omega)).trans ((if_neg (by omega)).trans ((if_neg (by omega)).trans (if_neg (by omega)))))))⟩
            · exact ⟨(show (h 11) 1 = h 11 1 from rfl).trans H.2.2.2.2.2.2.2.2.2.1.1, (show (upd (upd (upd (upd (upd (h 75) 2 (nI (n + 1))) (7 + (4 * n)) (nI kx1)) ((7 + (4 * n)) + 1) (nI kx2)) ((7 + (4 * n)) + 2) (nI kx3)) (7 + 4 * n + 3) (-1)) 6 = h 75 6 from ((if_neg (by omega)).trans ((if_neg (by omega)).trans ((if_neg (by omega)).trans ((if_neg (by omega)).trans (if_neg (by omega))))))).trans H.2.2.2.2.2.2.2.2.2.1.2.1, H.2.2.2.2.2.2.2.2.2.1.2.2.1, re_g10 (m2 := (upd (upd (upd (upd (upd (h 75) 2 (nI (n + 1))) (7 + (4 * n)) (nI kx1)) ((7 + (4 * n)) + 1) (nI kx2)) ((7 + (4 * n)) + 2) (nI kx3)) (7 + 4 * n + 3) (-1))) H.2.2.2.2.2.2.2.2.2.1.2.2.1 H.2.2.2.2.2.2.2.2.2.1.2.2.2 (fun i h1 h2 => ((if_neg (by omega)).trans ((if_neg (by omega)).trans ((if_neg (by omega)).trans ((if_neg (by omega)).trans (if_neg (by omega)))))))⟩
            · exact re_law_m (m2 := (upd (upd (upd (upd (upd (h 75) 2 (nI (n + 1))) (7 + (4 * n)) (nI kx1)) ((7 + (4 * n)) + 1) (nI kx2)) ((7 + (4 * n)) + 2) (nI kx3)) (7 + 4 * n + 3) (-1))) H.2.2.2.2.2.2.2.2.2.2.1 (fun i h1 h2 => ((if_neg (by omega)).trans ((if_neg (by omega)).trans ((if_neg (by omega)).trans ((if_neg (by omega)).trans (if_neg (by omega)))))))
            · exact re_law_m (m2 := (upd (upd (upd (upd (upd (h 75) 2 (nI (n + 1))) (7 + (4 * n)) (nI kx1)) ((7 + (4 * n)) + 1) (nI kx2)) ((7 + (4 * n)) + 2) (nI kx3)) (7 + 4 * n + 3) (-1))) H.2.2.2.2.2.2.2.2.2.2.2 (fun i h1 h2 => ((if_neg (by omega)).trans ((if_neg (by omega)).trans ((if_neg (by omega)).trans ((if_neg (by omega)).trans (if_neg (by omega)))))))
          exact kk2 _ _ ⟨⟨(n + 1), c, t, tp, wt, s0, s1, p0, p1, Hn⟩, re_im_s hI, hE, hS0, hS1, hS2, hS3, hT⟩
        · skip
          have cq44n : ¬ (n < 7) := fun q => cq44 ((nI_ltI (a := n) (b := 7) (by omega) (by omega)).mpr q)
          refine wp_run 2 (pc' := 49) (ls' := [.ref 0, .int (nI kx1), .int (nI kx2), .int (nI kx3)]) (st' := [.int 4, .ref 0]) rfl ?_
          refine wp_callV (o := 0) (as := [.int 4]) (rest := []) (els := [.ref 0, .int 4]) rfl rfl rfl rfl rfl rfl rfl rfl (by omega) ?_
          refine sp_refuse4 (by omega) ?_
          show am_wp L xs _ _ _ _ 52 [.ref 0, .int (nI kx1), .int (nI kx2), .int (nI kx3)] [.int (-1000000004)] (am_S b) (am_u h 73 4 (h 73 4 + 1)) _
          refine wp_ret rfl ?_
          refine kk _ _ _ (fun ms2 Q2 kk2 => ?_)
          refine wp_run 3 (pc' := 4) (ls' := [.ref 74, .int (nI kx1), .int (nI kx2), .int (nI kx3), am_du]) (st' := [.int 9, .int 0, .int (nI kx1)]) rfl ?_
          refine wp_callS (as := [.int (nI kx1), .int 0, .int 9]) (rest := []) (els := [.int (nI kx1), .int 0, .int 9]) rfl rfl rfl rfl rfl rfl rfl rfl (by omega) ?_
          refine sp_m_in0 (m := 9) rfl rfl (fun _ _ _ => ?_) (fun q => absurd rfl (q kx1 (by omega)))
          show am_wp L xs _ _ _ _ 7 [.ref 74, .int (nI kx1), .int (nI kx2), .int (nI kx3), am_du] [.int 1] (am_S b) (am_u h 73 4 (h 73 4 + 1)) _
          refine wp_if_f rfl (show ¬ ((1 : Int32) = 0) from by decide) ?_
          refine wp_run 3 (pc' := 14) (ls' := [.ref 74, .int (nI kx1), .int (nI kx2), .int (nI kx3), am_du]) (st' := [.int 9, .int 0, .int (nI kx2)]) rfl ?_
          refine wp_callS (as := [.int (nI kx2), .int 0, .int 9]) (rest := []) (els := [.int (nI kx2), .int 0, .int 9]) rfl rfl rfl rfl rfl rfl rfl rfl (by omega) ?_
          refine sp_m_in0 (m := 9) rfl rfl (fun _ _ _ => ?_) (fun q => absurd rfl (q kx2 (by omega)))
          show am_wp L xs _ _ _ _ 17 [.ref 74, .int (nI kx1), .int (nI kx2), .int (nI kx3), am_du] [.int 1] (am_S b) (am_u h 73 4 (h 73 4 + 1)) _
          refine wp_if_f rfl (show ¬ ((1 : Int32) = 0) from by decide) ?_
          refine wp_run 3 (pc' := 23) (ls' := [.ref 74, .int (nI kx1), .int (nI kx2), .int (nI kx3), am_du]) (st' := [.int 3, .int 0, .int (nI kx3)]) rfl ?_
          refine wp_callS (as := [.int (nI kx3), .int 0, .int 3]) (rest := []) (els := [.int (nI kx3), .int 0, .int 3]) rfl rfl rfl rfl rfl rfl rfl rfl (by omega) ?_
          refine sp_m_in0 (m := 3) rfl rfl (fun _ _ _ => ?_) (fun q => absurd rfl (q kx3 (by omega)))
          show am_wp L xs _ _ _ _ 26 [.ref 74, .int (nI kx1), .int (nI kx2), .int (nI kx3), am_du] [.int 1] (am_S b) (am_u h 73 4 (h 73 4 + 1)) _
          refine wp_if_t rfl (show ¬ (1 : Int32) = 0 from by decide) ?_
          refine wp_run 1 (pc' := 37) (ls' := [.ref 74, .int (nI kx1), .int (nI kx2), .int (nI kx3), am_du]) (st' := [.ref 74]) rfl ?_
          refine wp_getr 75 rfl rfl rfl ?_
          refine wp_run 1 (pc' := 41) (ls' := [.ref 74, .int (nI kx1), .int (nI kx2), .int (nI kx3), am_du]) (st' := [.int 2, .ref 75]) rfl ?_
          refine wp_ald (i := 2) (nI n) hm2 rfl rfl rfl (by decide) rfl ?_
          refine wp_run 3 (pc' := 48) (ls' := [.ref 74, .int (nI kx1), .int (nI kx2), .int (nI kx3), .int (nI n)]) (st' := [.int 7, .int (nI n)]) rfl ?_
          refine wp_icmp_f rfl (show ¬ (¬ (nI n) = 7) from (fun q => q ((nI_eq (a := n) (b := 7) (by omega) (by omega)).mpr (by omega)))) ?_
          refine wp_run 2 (pc' := 54) (ls' := [.ref 74, .int (nI kx1), .int (nI kx2), .int (nI kx3), .int (nI n)]) (st' := [.int (-1000000004), .ref 74]) rfl ?_
          refine wp_callV (o := 74) (as := [.int (-1000000004)]) (rest := []) (els := [.ref 74, .int (-1000000004)]) rfl rfl rfl rfl rfl rfl rfl rfl (by omega) ?_
          refine sp_error4 ?_
          show am_wp L xs _ _ _ _ 57 [.ref 74, .int (nI kx1), .int (nI kx2), .int (nI kx3), .int (nI n)] [.int (-1000000004)] (am_S b) (am_u (am_u h 73 4 (h 73 4 + 1)) 77 4 ((am_u h 73 4 (h 73 4 + 1)) 77 4 + 1)) _
          refine wp_ret rfl ?_
          exact kk2 _ _ (re_err4 hR)
      · skip
        intro hnx3
        show am_wp L xs _ _ _ _ 26 [.ref 0, .int (nI kx1), .int (nI kx2), .int x3] [.int 0] (am_S b) h _
        refine wp_if_f rfl (show ¬ (¬ (0 : Int32) = 0) from by decide) ?_
        refine wp_run 2 (pc' := 31) (ls' := [.ref 0, .int (nI kx1), .int (nI kx2), .int x3]) (st' := [.int 1, .ref 0]) rfl ?_
        refine wp_callV (o := 0) (as := [.int 1]) (rest := []) (els := [.ref 0, .int 1]) rfl rfl rfl rfl rfl rfl rfl rfl (by omega) ?_
        refine sp_refuse1 (by omega) ?_
        show am_wp L xs _ _ _ _ 34 [.ref 0, .int (nI kx1), .int (nI kx2), .int x3] [.int (-1000000001)] (am_S b) (am_u h 73 1 (h 73 1 + 1)) _
        refine wp_ret rfl ?_
        refine kk _ _ _ (fun ms2 Q2 kk2 => ?_)
        refine wp_run 3 (pc' := 4) (ls' := [.ref 74, .int (nI kx1), .int (nI kx2), .int x3, am_du]) (st' := [.int 9, .int 0, .int (nI kx1)]) rfl ?_
        refine wp_callS (as := [.int (nI kx1), .int 0, .int 9]) (rest := []) (els := [.int (nI kx1), .int 0, .int 9]) rfl rfl rfl rfl rfl rfl rfl rfl (by omega) ?_
        refine sp_m_in0 (m := 9) rfl rfl (fun _ _ _ => ?_) (fun q => absurd rfl (q kx1 (by omega)))
        show am_wp L xs _ _ _ _ 7 [.ref 74, .int (nI kx1), .int (nI kx2), .int x3, am_du] [.int 1] (am_S b) (am_u h 73 1 (h 73 1 + 1)) _
        refine wp_if_f rfl (show ¬ ((1 : Int32) = 0) from by decide) ?_
        refine wp_run 3 (pc' := 14) (ls' := [.ref 74, .int (nI kx1), .int (nI kx2), .int x3, am_du]) (st' := [.int 9, .int 0, .int (nI kx2)]) rfl ?_
        refine wp_callS (as := [.int (nI kx2), .int 0, .int 9]) (rest := []) (els := [.int (nI kx2), .int 0, .int 9]) rfl rfl rfl rfl rfl rfl rfl rfl (by omega) ?_
        refine sp_m_in0 (m := 9) rfl rfl (fun _ _ _ => ?_) (fun q => absurd rfl (q kx2 (by omega)))
        show am_wp L xs _ _ _ _ 17 [.ref 74, .int (nI kx1), .int (nI kx2), .int x3, am_du] [.int 1] (am_S b) (am_u h 73 1 (h 73 1 + 1)) _
        refine wp_if_f rfl (show ¬ ((1 : Int32) = 0) from by decide) ?_
        refine wp_run 3 (pc' := 23) (ls' := [.ref 74, .int (nI kx1), .int (nI kx2), .int x3, am_du]) (st' := [.int 3, .int 0, .int x3]) rfl ?_
        refine wp_callS (as := [.int x3, .int 0, .int 3]) (rest := []) (els := [.int x3, .int 0, .int 3]) rfl rfl rfl rfl rfl rfl rfl rfl (by omega) ?_
        refine sp_m_in0 (m := 3) rfl rfl (fun k hk e => absurd e (hnx3 k hk)) (fun _ => ?_)
        show am_wp L xs _ _ _ _ 26 [.ref 74, .int (nI kx1), .int (nI kx2), .int x3, am_du] [.int 0] (am_S b) (am_u h 73 1 (h 73 1 + 1)) _
        refine wp_if_f rfl (show ¬ (¬ (0 : Int32) = 0) from by decide) ?_
        refine wp_run 2 (pc' := 32) (ls' := [.ref 74, .int (nI kx1), .int (nI kx2), .int x3, am_du]) (st' := [.int (-1000000001), .ref 74]) rfl ?_
        refine wp_callV (o := 74) (as := [.int (-1000000001)]) (rest := []) (els := [.ref 74, .int (-1000000001)]) rfl rfl rfl rfl rfl rfl rfl rfl (by omega) ?_
        refine sp_error1 ?_
        show am_wp L xs _ _ _ _ 35 [.ref 74, .int (nI kx1), .int (nI kx2), .int x3, am_du] [.int (-1000000001)] (am_S b) (am_u (am_u h 73 1 (h 73 1 + 1)) 77 1 ((am_u h 73 1 (h 73 1 + 1)) 77 1 + 1)) _
        refine wp_ret rfl ?_
        exact kk2 _ _ (re_err1 hR)
    · skip
      intro hnx2
      show am_wp L xs _ _ _ _ 17 [.ref 0, .int (nI kx1), .int x2, .int x3] [.int 0] (am_S b) h _
      refine wp_if_t rfl (show (0 : Int32) = 0 from by decide) ?_
      refine wp_run 2 (pc' := 31) (ls' := [.ref 0, .int (nI kx1), .int x2, .int x3]) (st' := [.int 1, .ref 0]) rfl ?_
      refine wp_callV (o := 0) (as := [.int 1]) (rest := []) (els := [.ref 0, .int 1]) rfl rfl rfl rfl rfl rfl rfl rfl (by omega) ?_
      refine sp_refuse1 (by omega) ?_
      show am_wp L xs _ _ _ _ 34 [.ref 0, .int (nI kx1), .int x2, .int x3] [.int (-1000000001)] (am_S b) (am_u h 73 1 (h 73 1 + 1)) _
      refine wp_ret rfl ?_
      refine kk _ _ _ (fun ms2 Q2 kk2 => ?_)
      refine wp_run 3 (pc' := 4) (ls' := [.ref 74, .int (nI kx1), .int x2, .int x3, am_du]) (st' := [.int 9, .int 0, .int (nI kx1)]) rfl ?_
      refine wp_callS (as := [.int (nI kx1), .int 0, .int 9]) (rest := []) (els := [.int (nI kx1), .int 0, .int 9]) rfl rfl rfl rfl rfl rfl rfl rfl (by omega) ?_
      refine sp_m_in0 (m := 9) rfl rfl (fun _ _ _ => ?_) (fun q => absurd rfl (q kx1 (by omega)))
      show am_wp L xs _ _ _ _ 7 [.ref 74, .int (nI kx1), .int x2, .int x3, am_du] [.int 1] (am_S b) (am_u h 73 1 (h 73 1 + 1)) _
      refine wp_if_f rfl (show ¬ ((1 : Int32) = 0) from by decide) ?_
      refine wp_run 3 (pc' := 14) (ls' := [.ref 74, .int (nI kx1), .int x2, .int x3, am_du]) (st' := [.int 9, .int 0, .int x2]) rfl ?_
      refine wp_callS (as := [.int x2, .int 0, .int 9]) (rest := []) (els := [.int x2, .int 0, .int 9]) rfl rfl rfl rfl rfl rfl rfl rfl (by omega) ?_
      refine sp_m_in0 (m := 9) rfl rfl (fun k hk e => absurd e (hnx2 k hk)) (fun _ => ?_)
      show am_wp L xs _ _ _ _ 17 [.ref 74, .int (nI kx1), .int x2, .int x3, am_du] [.int 0] (am_S b) (am_u h 73 1 (h 73 1 + 1)) _
      refine wp_if_t rfl (show (0 : Int32) = 0 from by decide) ?_
      refine wp_run 2 (pc' := 32) (ls' := [.ref 74, .int (nI kx1), .int x2, .int x3, am_du]) (st' := [.int (-1000000001), .ref 74]) rfl ?_
      refine wp_callV (o := 74) (as := [.int (-1000000001)]) (rest := []) (els := [.ref 74, .int (-1000000001)]) rfl rfl rfl rfl rfl rfl rfl rfl (by omega) ?_
      refine sp_error1 ?_
      show am_wp L xs _ _ _ _ 35 [.ref 74, .int (nI kx1), .int x2, .int x3, am_du] [.int (-1000000001)] (am_S b) (am_u (am_u h 73 1 (h 73 1 + 1)) 77 1 ((am_u h 73 1 (h 73 1 + 1)) 77 1 + 1)) _
      refine wp_ret rfl ?_
      exact kk2 _ _ (re_err1 hR)
  · skip
    intro hnx1
    show am_wp L xs _ _ _ _ 7 [.ref 0, .int x1, .int x2, .int x3] [.int 0] (am_S b) h _
    refine wp_if_t rfl (show (0 : Int32) = 0 from by decide) ?_
    refine wp_run 2 (pc' := 31) (ls' := [.ref 0, .int x1, .int x2, .int x3]) (st' := [.int 1, .ref 0]) rfl ?_
    refine wp_callV (o := 0) (as := [.int 1]) (rest := []) (els := [.ref 0, .int 1]) rfl rfl rfl rfl rfl rfl rfl rfl (by omega) ?_
    refine sp_refuse1 (by omega) ?_
    show am_wp L xs _ _ _ _ 34 [.ref 0, .int x1, .int x2, .int x3] [.int (-1000000001)] (am_S b) (am_u h 73 1 (h 73 1 + 1)) _
    refine wp_ret rfl ?_
    refine kk _ _ _ (fun ms2 Q2 kk2 => ?_)
    refine wp_run 3 (pc' := 4) (ls' := [.ref 74, .int x1, .int x2, .int x3, am_du]) (st' := [.int 9, .int 0, .int x1]) rfl ?_
    refine wp_callS (as := [.int x1, .int 0, .int 9]) (rest := []) (els := [.int x1, .int 0, .int 9]) rfl rfl rfl rfl rfl rfl rfl rfl (by omega) ?_
    refine sp_m_in0 (m := 9) rfl rfl (fun k hk e => absurd e (hnx1 k hk)) (fun _ => ?_)
    show am_wp L xs _ _ _ _ 7 [.ref 74, .int x1, .int x2, .int x3, am_du] [.int 0] (am_S b) (am_u h 73 1 (h 73 1 + 1)) _
    refine wp_if_t rfl (show (0 : Int32) = 0 from by decide) ?_
    refine wp_run 2 (pc' := 32) (ls' := [.ref 74, .int x1, .int x2, .int x3, am_du]) (st' := [.int (-1000000001), .ref 74]) rfl ?_
    refine wp_callV (o := 74) (as := [.int (-1000000001)]) (rest := []) (els := [.ref 74, .int (-1000000001)]) rfl rfl rfl rfl rfl rfl rfl rfl (by omega) ?_
    refine sp_error1 ?_
    show am_wp L xs _ _ _ _ 35 [.ref 74, .int x1, .int x2, .int x3, am_du] [.int (-1000000001)] (am_S b) (am_u (am_u h 73 1 (h 73 1 + 1)) 77 1 ((am_u h 73 1 (h 73 1 + 1)) 77 1 + 1)) _
    refine wp_ret rfl ?_
    exact kk2 _ _ (re_err1 hR)
theorem pu_km (k : Nat) (hk : k ≤ 69) : (∃ x, x < 7 ∧ nI k / 10 = nI x) ∧ ∃ x, x < 10 ∧ am_rem (nI k) 10 = nI x := by
  have h : ∀ k, k < 70 → nI k / 10 = nI (k / 10) ∧ am_rem (nI k) 10 = nI (k % 10) := by decide +kernel
  obtain ⟨h1, h2⟩ := h k (by omega)
  exact ⟨⟨k / 10, by omega, h1⟩, ⟨k % 10, by omega, h2⟩⟩
theorem op_coat {L : Nat} {xs : Nat → Int32} {d ms b N : Nat} {h : am_HI} {Q : am_Q} {x1 : Int32} {x2 : Int32} (hd : 30 ≤ d) (hR : am_Rel N h) (hN : N < 100000)
    (kk : ∀ v b1 h1, (∀ ms2 Q2, (∀ b2 h2, am_Rel (N + 1) h2 → Q2 (some (.int v)) (am_S b2) h2) → am_wp L xs d 0 ms2 145 0 [.ref 74, .int x1, .int x2, am_du] [] (am_S b1) h1 Q2) → Q (some (.int v)) (am_S b1) h1) :
    am_wp L xs d 0 ms 26 0 [.ref 0, .int x1, .int x2] [] (am_S b) h Q := by
  obtain ⟨⟨n, c, t, tp, wt, s0, s1, p0, p1, H⟩, hI, hE, hS0, hS1, hS2, hS3, hT⟩ := id hR
  have hn := H.1.1
  have hm2 := H.1.2.1
  have hn7 := H.1.2.2
  have hc := H.2.1.1
  have hm3 := H.2.1.2.1
  have hc7 := H.2.1.2.2
  have ht := H.2.2.1.1
  have hm0 := H.2.2.1.2.1
  have ht9 := H.2.2.1.2.2
  have HS := re_hs H
  have HM := re_ms H
  refine wp_run 1 (pc' := 1) (ls' := [.ref 0, .int x1, .int x2]) (st' := [.int x1]) rfl ?_
  refine wp_callS (as := [.int x1]) (rest := []) (els := [.int x1]) rfl rfl rfl rfl rfl rfl rfl rfl (by omega) ?_
  refine sp_x_isKindAndMark (by omega) ?_ ?_
  · skip
    intro kx1 hkx1 ex1
    subst ex1
    show am_wp L xs _ _ _ _ 4 [.ref 0, .int (nI kx1), .int x2] [.int 1] (am_S b) h _
    refine wp_if_f rfl (show ¬ ((1 : Int32) = 0) from by decide) ?_
    refine wp_run 1 (pc' := 8) (ls' := [.ref 0, .int (nI kx1), .int x2]) (st' := [.ref 0]) rfl ?_
    refine wp_getr 1 rfl rfl rfl ?_
    refine wp_run 1 (pc' := 12) (ls' := [.ref 0, .int (nI kx1), .int x2]) (st' := [.int x2, .ref 1]) rfl ?_
    refine wp_callV (o := 1) (as := [.int x2]) (rest := []) (els := [.ref 1, .int x2]) rfl rfl rfl rfl rfl rfl rfl rfl (by omega) ?_
    refine sp_hasGuestOrNobody hn hn7 (by omega) ?_ ?_ ?_
    · skip
      intro ex2
      subst ex2
      show am_wp L xs _ _ _ _ 15 [.ref 0, .int (nI kx1), .int (-1)] [.int 1] (am_S b) h _
      refine wp_if_t rfl (show ¬ (1 : Int32) = 0 from by decide) ?_
      refine wp_run 1 (pc' := 25) (ls' := [.ref 0, .int (nI kx1), .int (-1)]) (st' := [.ref 0]) rfl ?_
      refine wp_getr 1 rfl rfl rfl ?_
      refine wp_geti (a := 11) (nI c) hc rfl rfl rfl ?_
      refine wp_run 1 (pc' := 33) (ls' := [.ref 0, .int (nI kx1), .int (-1)]) (st' := [.int 7, .int (nI c)]) rfl ?_
      refine wp_icmp rfl (fun (cq33 : (nI c) < 7) => ?_) (fun (cq33 : ¬ ((nI c) < 7)) => ?_)
      · skip
        have cq33n : c < 7 := (nI_ltI (a := c) (b := 7) (by omega) (by omega)).mp cq33
        refine wp_run 1 (pc' := 43) (ls' := [.ref 0, .int (nI kx1), .int (-1)]) (st' := [.ref 0]) rfl ?_
        refine wp_getr 1 rfl rfl rfl ?_
        refine wp_run 2 (pc' := 49) (ls' := [.ref 0, .int (nI kx1), .int (-1)]) (st' := [.int 10, .int (nI kx1), .ref 1]) rfl ?_
        refine wp_idiv rfl (by decide) ?_
        refine wp_run 2 (pc' := 53) (ls' := [.ref 0, .int (nI kx1), .int (-1)]) (st' := [.int 10, .int (nI kx1), .int ((nI kx1) / 10), .ref 1]) rfl ?_
        refine wp_irem rfl (by decide) ?_
        refine wp_run 1 (pc' := 55) (ls' := [.ref 0, .int (nI kx1), .int (-1)]) (st' := [.int (-1), .int (am_rem (nI kx1) 10), .int ((nI kx1) / 10), .ref 1]) rfl ?_
        refine wp_callV (o := 1) (as := [.int ((nI kx1) / 10), .int (am_rem (nI kx1) 10), .int (-1)]) (rest := []) (els := [.ref 1, .int ((nI kx1) / 10), .int (am_rem (nI kx1) 10), .int (-1), am_du]) rfl rfl rfl rfl rfl rfl rfl rfl (by omega) ?_
        refine sp_addCoat (c := c) hc (by omega) ?_
        show am_wp L xs _ _ _ _ 58 [.ref 0, .int (nI kx1), .int (-1)] [.int (nI c)] (am_S b) (am_u (am_u (am_u (am_u h 6 c ((nI kx1) / 10)) 7 c (am_rem (nI kx1) 10)) 8 c (-1)) 1 11 (nI (c + 1))) _
        refine wp_ret rfl ?_
        refine kk _ _ _ (fun ms2 Q2 kk2 => ?_)
        refine wp_run 1 (pc' := 1) (ls' := [.ref 74, .int (nI kx1), .int (-1), am_du]) (st' := [.int (nI kx1)]) rfl ?_
        refine wp_callS (as := [.int (nI kx1)]) (rest := []) (els := [.int (nI kx1)]) rfl rfl rfl rfl rfl rfl rfl rfl (by omega) ?_
        refine sp_m_isKm (by omega) (fun _ _ _ => ?_) (fun q => absurd rfl (q kx1 (by omega)))
        show am_wp L xs _ _ _ _ 4 [.ref 74, .int (nI kx1), .int (-1), am_du] [.int 1] (am_S b) (am_u (am_u (am_u (am_u h 6 c ((nI kx1) / 10)) 7 c (am_rem (nI kx1) 10)) 8 c (-1)) 1 11 (nI (c + 1))) _
        refine wp_if_f rfl (show ¬ ((1 : Int32) = 0) from by decide) ?_
        refine wp_run 2 (pc' := 9) (ls' := [.ref 74, .int (nI kx1), .int (-1), am_du]) (st' := [.int (-1), .int (-1)]) rfl ?_
        refine wp_icmp_t rfl (show ((-1) : Int32) = (-1) from by decide) ?_
        refine wp_run 1 (pc' := 28) (ls' := [.ref 74, .int (nI kx1), .int (-1), am_du]) (st' := [.ref 74]) rfl ?_
        refine wp_getr 75 rfl rfl rfl ?_
        refine wp_run 1 (pc' := 32) (ls' := [.ref 74, .int (nI kx1), .int (-1), am_du]) (st' := [.int 3, .ref 75]) rfl ?_
        refine wp_ald (i := 3) (nI c) hm3 rfl rfl rfl (by decide) rfl ?_
        refine wp_run 3 (pc' := 37) (ls' := [.ref 74, .int (nI kx1), .int (-1), .int (nI c)]) (st' := [.int 7, .int (nI c)]) rfl ?_
        refine wp_icmp_t rfl (show ¬ (nI c) = 7 from mt (nI_eq (a := c) (b := 7) (by omega) (by omega)).mp (by omega)) ?_
        refine wp_run 1 (pc' := 48) (ls' := [.ref 74, .int (nI kx1), .int (-1), .int (nI c)]) (st' := [.ref 74]) rfl ?_
        refine wp_getr 75 rfl rfl rfl ?_
        refine wp_run 2 (pc' := 53) (ls' := [.ref 74, .int (nI kx1), .int (-1), .int (nI c)]) (st' := [.int 3, .ref 75, .int 3, .ref 75]) rfl ?_
        refine wp_ald (i := 3) (nI c) hm3 rfl rfl rfl (by decide) rfl ?_
        refine wp_run 2 (pc' := 56) (ls' := [.ref 74, .int (nI kx1), .int (-1), .int (nI c)]) (st' := [.int ((nI c) + 1), .int 3, .ref 75]) rfl ?_
        rw [show (((nI c) + 1) : Int32) = (nI (c + 1)) from nI_add c 1]
        refine wp_ast rfl rfl rfl (by decide) rfl ?_
        refine wp_run 1 (pc' := 58) (ls' := [.ref 74, .int (nI kx1), .int (-1), .int (nI c)]) (st' := [.ref 74]) rfl ?_
        refine wp_getr 75 rfl rfl rfl ?_
        refine wp_run 7 (pc' := 70) (ls' := [.ref 74, .int (nI kx1), .int (-1), .int (nI c)]) (st' := [.int 10, .int (nI kx1), .int (35 + (3 * (nI c))), .ref 75]) rfl ?_
        rw [show ((3 * (nI c)) : Int32) = (nI (3 * c)) from pk_mul 3 c]
        rw [show ((35 + (nI (3 * c))) : Int32) = (nI (35 + (3 * c))) from nI_add 35 (3 * c)]
        refine wp_idiv rfl (by decide) ?_
        refine wp_ast rfl rfl rfl (by omega) rfl ?_
        refine wp_run 1 (pc' := 73) (ls' := [.ref 74, .int (nI kx1), .int (-1), .int (nI c)]) (st' := [.ref 74]) rfl ?_
        refine wp_getr 75 rfl rfl rfl ?_
        refine wp_run 9 (pc' := 87) (ls' := [.ref 74, .int (nI kx1), .int (-1), .int (nI c)]) (st' := [.int 10, .int (nI kx1), .int ((35 + (3 * (nI c))) + 1), .ref 75]) rfl ?_
        rw [show ((3 * (nI c)) : Int32) = (nI (3 * c)) from pk_mul 3 c]
        rw [show ((35 + (nI (3 * c))) : Int32) = (nI (35 + (3 * c))) from nI_add 35 (3 * c)]
        rw [show (((nI (35 + (3 * c))) + 1) : Int32) = (nI ((35 + (3 * c)) + 1)) from nI_add (35 + (3 * c)) 1]
        refine wp_irem rfl (by decide) ?_
        refine wp_ast rfl rfl rfl (by omega) rfl ?_
        refine wp_run 1 (pc' := 90) (ls' := [.ref 74, .int (nI kx1), .int (-1), .int (nI c)]) (st' := [.ref 74]) rfl ?_
        refine wp_getr 75 rfl rfl rfl ?_
        refine wp_run 8 (pc' := 102) (ls' := [.ref 74, .int (nI kx1), .int (-1), .int (nI c)]) (st' := [.int (-1), .int ((35 + (3 * (nI c))) + 2), .ref 75]) rfl ?_
        rw [show ((3 * (nI c)) : Int32) = (nI (3 * c)) from pk_mul 3 c]
        rw [show ((35 + (nI (3 * c))) : Int32) = (nI (35 + (3 * c))) from nI_add 35 (3 * c)]
        rw [show (((nI (35 + (3 * c))) + 2) : Int32) = (nI ((35 + (3 * c)) + 2)) from nI_add (35 + (3 * c)) 2]
        refine wp_ast rfl rfl rfl (by omega) rfl ?_
        refine wp_run 1 (pc' := 104) (ls' := [.ref 74, .int (nI kx1), .int (-1), .int (nI c)]) (st' := [.int (nI c)]) rfl ?_
        refine wp_ret rfl ?_
        have Hn : re_house n (c + 1) t tp wt s0 s1 p0 p1 (upd (h 1) 11 (nI (c + 1))) (h 2) (h 3) (h 4) (h 5) (upd (h 6) c ((nI kx1) / 10)) (upd (h 7) c (am_rem (nI kx1) 10)) (upd (h 8) c (-1)) (h 9) (h 10) (h 11) (h 12) (h 14) (h 15) (h 16) (h 19) (h 20) (h 21) (upd (upd (upd (upd (h 75) 3 (nI (c + 1))) (35 + (3 * c)) ((nI kx1) / 10)) ((35 + (3 * c)) + 1) (am_rem (nI kx1) 10)) ((35 + (3 * c)) + 2) (-1)) := by
          refine ⟨?_, ?_, ?_, ?_, ?_, ?_, ?_, ?_, ?_, ?_, ?_, ?_⟩
          · exact ⟨(show (upd (h 1) 11 (nI (c + 1))) 10 = h 1 10 from (if_neg (by omega))).trans H.1.1, (show (upd (upd (upd (upd (h 75) 3 (nI (c + 1))) (35 + (3 * c)) ((nI kx1) / 10)) ((35 + (3 * c)) + 1) (am_rem (nI kx1) 10)) ((35 + (3 * c)) + 2) (-1)) 2 = h 75 2 from ((if_neg (by omega)).trans ((if_neg (by omega)).trans ((if_neg (by omega)).trans (if_neg (by omega)))))).trans H.1.2.1, H.1.2.2⟩
          · exact ⟨(show (upd (h 1) 11 (nI (c + 1))) 11 = (nI (c + 1)) from (if_pos (by omega))), (show (upd (upd (upd (upd (h 75) 3 (nI (c + 1))) (35 + (3 * c)) ((nI kx1) / 10)) ((35 + (3 * c)) + 1) (am_rem (nI kx1) 10)) ((35 + (3 * c)) + 2) (-1)) 3 = (nI (c + 1)) from ((if_neg (by omega)).trans ((if_neg (by omega)).trans ((if_neg (by omega)).trans (if_pos (by omega)))))), by omega⟩
          · exact ⟨(show (upd (h 1) 11 (nI (c + 1))) 12 = h 1 12 from (if_neg (by omega))).trans H.2.2.1.1, (show (upd (upd (upd (upd (h 75) 3 (nI (c + 1))) (35 + (3 * c)) ((nI kx1) / 10)) ((35 + (3 * c)) + 1) (am_rem (nI kx1) 10)) ((35 + (3 * c)) + 2) (-1)) 0 = h 75 0 from ((if_neg (by omega)).trans ((if_neg (by omega)).trans ((if_neg (by omega)).trans (if_neg (by omega)))))).trans H.2.2.1.2.1, H.2.2.1.2.2⟩
          · exact ⟨(show (upd (h 1) 11 (nI (c + 1))) 13 = h 1 13 from (if_neg (by omega))).trans (H.2.2.2.1.1.trans (show (upd (upd (upd (upd (h 75) 3 (nI (c + 1))) (35 + (3 * c)) ((nI kx1) / 10)) ((35 + (3 * c)) + 1) (am_rem (nI kx1) 10)) ((35 + (3 * c)) + 2) (-1)) 4 = h 75 4 from ((if_neg (by omega)).trans ((if_neg (by omega)).trans ((if_neg (by omega)).trans (if_neg (by omega)))))).symm), (show (upd (h 1) 11 (nI (c + 1))) 14 = h 1 14 from (if_neg (by omega))).trans (H.2.2.2.1.2.trans (show (upd (upd (upd (upd (h 75) 3 (nI (c + 1))) (35 + (3 * c)) ((nI kx1) / 10)) ((35 + (3 * c)) + 1) (am_rem (nI kx1) 10)) ((35 + (3 * c)) + 2) (-1)) 1 = h 75 1 from ((if_neg (by omega)).trans ((if_neg (by omega)).trans ((if_neg (by omega)).trans (if_neg (by omega)))))).symm)⟩
          · exact re_g5 (m2 := (upd (upd (upd (upd (h 75) 3 (nI (c + 1))) (35 + (3 * c)) ((nI kx1) / 10)) ((35 + (3 * c)) + 1) (am_rem (nI kx1) 10)) ((35 + (3 * c)) + 2) (-1))) H.2.2.2.2.1 (fun i h1 h2 => ((if_neg (by omega)).trans ((if_neg (by omega)).trans ((if_neg (by omega)).trans (if_neg (by omega))))))
          · exact fun g hg => (Decidable.em (g = c)).elim (fun e => by rw [e]; exact ⟨(show (upd (h 6) c ((nI kx1) / 10)) c = ((nI kx1) / 10) from (if_pos (by omega))).trans (show (upd (upd (upd (upd (h 75) 3 (nI (c + 1))) (35 + (3 * c)) ((nI kx1) / 10)) ((35 + (3 * c)) + 1) (am_rem (nI kx1) 10)) ((35 + (3 * c)) + 2) (-1)) (35 + 3 * c) = ((nI kx1) / 10) from ((if_neg (by omega)).trans ((if_neg (by omega)).trans (if_pos (by omega))))).symm, (show (upd (h 7) c (am_rem (nI kx1) 10)) c = (am_rem (nI kx1) 10) from (if_pos (by omega))).trans (show (upd (upd (upd (upd (h 75) 3 (nI (c + 1))) (35 + (3 * c)) ((nI kx1) / 10)) ((35 + (3 * c)) + 1) (am_rem (nI kx1) 10)) ((35 + (3 * c)) + 2) (-1)) (35 + 3 * c + 1) = (am_rem (nI kx1) 10) from ((if_neg (by omega)).trans (if_pos (by omega)))).symm, (show (upd (h 8) c (-1)) c = (-1) from (if_pos (by omega))).trans (show (upd (upd (upd (upd (h 75) 3 (nI (c + 1))) (35 + (3 * c)) ((nI kx1) / 10)) ((35 + (3 * c)) + 1) (am_rem (nI kx1) 10)) ((35 + (3 * c)) + 2) (-1)) (35 + 3 * c + 2) = (-1) from (if_pos (by omega))).symm⟩) (fun e => ⟨(show (upd (h 6) c ((nI kx1) / 10)) g = h 6 g from (if_neg (by omega))).trans ((H.2.2.2.2.2.1 g hg).1.trans (show (upd (upd (upd (upd (h 75) 3 (nI (c + 1))) (35 + (3 * c)) ((nI kx1) / 10)) ((35 + (3 * c)) + 1) (am_rem (nI kx1) 10)) ((35 + (3 * c)) + 2) (-1)) (35 + 3 * g) = h 75 (35 + 3 * g) from ((if_neg (by omega)).trans ((if_neg (by omega)).trans ((if_neg (by omega)).trans (if_neg (by omega)))))).symm), (show (upd (h 7) c (am_rem (nI kx1) 10)) g = h 7 g from (if_neg (by omega))).trans ((H.2.2.2.2.2.1 g hg).2.1.trans (show (upd (upd (upd (upd (h 75) 3 (nI (c + 1))) (35 + (3 * c)) ((nI kx1) / 10)) ((35 + (3 * c)) + 1) (am_rem (nI kx1) 10)) ((35 + (3 * c)) + 2) (-1)) (35 + 3 * g + 1) = h 75 (35 + 3 * g + 1) from ((if_neg (by omega)).trans ((if_neg (by omega)).trans ((if_neg (by omega)).trans (if_neg (by omega)))))).symm), (show (upd (h 8) c (-1)) g = h 8 g from (if_neg (by omega))).trans ((H.2.2.2.2.2.1 g hg).2.2.trans (show (upd (upd (upd (upd (h 75) 3 (nI (c + 1))) (35 + (3 * c)) ((nI kx1) / 10)) ((35 + (3 * c)) + 1) (am_rem (nI kx1) 10)) ((35 + (3 * c)) + 2) (-1)) (35 + 3 * g + 2) = h 75 (35 + 3 * g + 2) from ((if_neg (by omega)).trans ((if_neg (by omega)).trans ((if_neg (by omega)).trans (if_neg (by omega)))))).symm)⟩)
          · exact fun g hg => by obtain ⟨q1, q2, q3, q4⟩ := H.2.2.2.2.2.2.1 g hg; exact ⟨q1, q2, q3, q4.elim Or.inl (fun ⟨j, hj, q⟩ => Or.inr ⟨j, by omega, q⟩)⟩
          · exact fun j hj => (Decidable.em (j = c)).elim (fun e => by obtain ⟨⟨a1, a2, a3⟩, ⟨a4, a5, a6⟩⟩ := pu_km kx1 (by omega); rw [e]; exact ⟨⟨a1, a2, (show (upd (h 6) c ((nI kx1) / 10)) c = ((nI kx1) / 10) from (if_pos (by omega))).trans a3⟩, ⟨a4, a5, (show (upd (h 7) c (am_rem (nI kx1) 10)) c = (am_rem (nI kx1) 10) from (if_pos (by omega))).trans a6⟩, Or.inl (show (upd (h 8) c (-1)) c = (-1) from (if_pos (by omega)))⟩) (fun e => by obtain ⟨⟨a1, a2, a3⟩, ⟨a4, a5, a6⟩, q⟩ := H.2.2.2.2.2.2.2.1 j (by omega); exact ⟨⟨a1, a2, (show (upd (h 6) c ((nI kx1) / 10)) j = h 6 j from (if_neg (by omega))).trans a3⟩, ⟨a4, a5, (show (upd (h 7) c (am_rem (nI kx1) 10)) j = h 7 j from (if_neg (by omega))).trans a6⟩, q.elim (fun q => Or.inl ((show (upd (h 8) c (-1)) j = h 8 j from (if_neg (by omega))).trans q)) (fun ⟨g, hg, q⟩ => Or.inr ⟨g, hg, (show (upd (h 8) c (-1)) j = h 8 j from (if_neg (by omega))).trans q⟩)⟩)
          · exact ⟨(show (h 9) 1 = h 9 1 from rfl).trans H.2.2.2.2.2.2.2.2.1.1, (show (upd (upd (upd (upd (h 75) 3 (nI (c + 1))) (35 + (3 * c)) ((nI kx1) / 10)) ((35 + (3 * c)) + 1) (am_rem (nI kx1) 10)) ((35 + (3 * c)) + 2) (-1)) 5 = h 75 5 from ((if_neg (by omega)).trans ((if_neg (by omega)).trans ((if_neg (by omega)).trans (if_neg (by omega)))))).trans H.2.2.2.2.2.2.2.2.1.2.1, H.2.2.2.2.2.2.2.2.1.2.2.1, re_g9 (m2 := (upd (upd (upd (upd (h 75) 3 (nI (c + 1))) (35 + (3 * c)) ((nI kx1) / 10)) ((35 + (3 * c)) + 1) (am_rem (nI kx1) 10)) ((35 + (3 * c)) + 2) (-1))) H.2.2.2.2.2.2.2.2.1.2.2.1 H.2.2.2.2.2.2.2.2.1.2.2.2 (fun i h1 h2 => ((if_neg (by omega)).trans ((if_neg (by omega)).trans ((if_neg (by omega)).trans (if_neg (by omega))))))⟩
          · exact ⟨(show (h 11) 1 = h 11 1 from rfl).trans H.2.2.2.2.2.2.2.2.2.1.1, (show (upd (upd (upd (upd (h 75) 3 (nI (c + 1))) (35 + (3 * c)) ((nI kx1) / 10)) ((35 + (3 * c)) + 1) (am_rem (nI kx1) 10)) ((35 + (3 * c)) + 2) (-1)) 6 = h 75 6 from ((if_neg (by omega)).trans ((if_neg (by omega)).trans ((if_neg (by omega)).trans (if_neg (by omega)))))).trans H.2.2.2.2.2.2.2.2.2.1.2.1, H.2.2.2.2.2.2.2.2.2.1.2.2.1, re_g10 (m2 := (upd (upd (upd (upd (h 75) 3 (nI (c + 1))) (35 + (3 * c)) ((nI kx1) / 10)) ((35 + (3 * c)) + 1) (am_rem (nI kx1) 10)) ((35 + (3 * c)) + 2) (-1))) H.2.2.2.2.2.2.2.2.2.1.2.2.1 H.2.2.2.2.2.2.2.2.2.1.2.2.2 (fun i h1 h2 => ((if_neg (by omega)).trans ((if_neg (by omega)).trans ((if_neg (by omega)).trans (if_neg (by omega))))))⟩
          · exact re_law_m (m2 := (upd (upd (upd (upd (h 75) 3 (nI (c + 1))) (35 + (3 * c)) ((nI kx1) / 10)) ((35 + (3 * c)) + 1) (am_rem (nI kx1) 10)) ((35 + (3 * c)) + 2) (-1))) H.2.2.2.2.2.2.2.2.2.2.1 (fun i h1 h2 => ((if_neg (by omega)).trans ((if_neg (by omega)).trans ((if_neg (by omega)).trans (if_neg (by omega))))))
          · exact re_law_m (m2 := (upd (upd (upd (upd (h 75) 3 (nI (c + 1))) (35 + (3 * c)) ((nI kx1) / 10)) ((35 + (3 * c)) + 1) (am_rem (nI kx1) 10)) ((35 + (3 * c)) + 2) (-1))) H.2.2.2.2.2.2.2.2.2.2.2 (fun i h1 h2 => ((if_neg (by omega)).trans ((if_neg (by omega)).trans ((if_neg (by omega)).trans (if_neg (by omega))))))
        exact kk2 _ _ ⟨⟨n, (c + 1), t, tp, wt, s0, s1, p0, p1, Hn⟩, re_im_s hI, hE, hS0, hS1, hS2, hS3, hT⟩
      · skip
        have cq33n : ¬ (c < 7) := fun q => cq33 ((nI_ltI (a := c) (b := 7) (by omega) (by omega)).mpr q)
        refine wp_run 2 (pc' := 38) (ls' := [.ref 0, .int (nI kx1), .int (-1)]) (st' := [.int 4, .ref 0]) rfl ?_
        refine wp_callV (o := 0) (as := [.int 4]) (rest := []) (els := [.ref 0, .int 4]) rfl rfl rfl rfl rfl rfl rfl rfl (by omega) ?_
        refine sp_refuse4 (by omega) ?_
        show am_wp L xs _ _ _ _ 41 [.ref 0, .int (nI kx1), .int (-1)] [.int (-1000000004)] (am_S b) (am_u h 73 4 (h 73 4 + 1)) _
        refine wp_ret rfl ?_
        refine kk _ _ _ (fun ms2 Q2 kk2 => ?_)
        refine wp_run 1 (pc' := 1) (ls' := [.ref 74, .int (nI kx1), .int (-1), am_du]) (st' := [.int (nI kx1)]) rfl ?_
        refine wp_callS (as := [.int (nI kx1)]) (rest := []) (els := [.int (nI kx1)]) rfl rfl rfl rfl rfl rfl rfl rfl (by omega) ?_
        refine sp_m_isKm (by omega) (fun _ _ _ => ?_) (fun q => absurd rfl (q kx1 (by omega)))
        show am_wp L xs _ _ _ _ 4 [.ref 74, .int (nI kx1), .int (-1), am_du] [.int 1] (am_S b) (am_u h 73 4 (h 73 4 + 1)) _
        refine wp_if_f rfl (show ¬ ((1 : Int32) = 0) from by decide) ?_
        refine wp_run 2 (pc' := 9) (ls' := [.ref 74, .int (nI kx1), .int (-1), am_du]) (st' := [.int (-1), .int (-1)]) rfl ?_
        refine wp_icmp_t rfl (show ((-1) : Int32) = (-1) from by decide) ?_
        refine wp_run 1 (pc' := 28) (ls' := [.ref 74, .int (nI kx1), .int (-1), am_du]) (st' := [.ref 74]) rfl ?_
        refine wp_getr 75 rfl rfl rfl ?_
        refine wp_run 1 (pc' := 32) (ls' := [.ref 74, .int (nI kx1), .int (-1), am_du]) (st' := [.int 3, .ref 75]) rfl ?_
        refine wp_ald (i := 3) (nI c) hm3 rfl rfl rfl (by decide) rfl ?_
        refine wp_run 3 (pc' := 37) (ls' := [.ref 74, .int (nI kx1), .int (-1), .int (nI c)]) (st' := [.int 7, .int (nI c)]) rfl ?_
        refine wp_icmp_f rfl (show ¬ (¬ (nI c) = 7) from (fun q => q ((nI_eq (a := c) (b := 7) (by omega) (by omega)).mpr (by omega)))) ?_
        refine wp_run 2 (pc' := 43) (ls' := [.ref 74, .int (nI kx1), .int (-1), .int (nI c)]) (st' := [.int (-1000000004), .ref 74]) rfl ?_
        refine wp_callV (o := 74) (as := [.int (-1000000004)]) (rest := []) (els := [.ref 74, .int (-1000000004)]) rfl rfl rfl rfl rfl rfl rfl rfl (by omega) ?_
        refine sp_error4 ?_
        show am_wp L xs _ _ _ _ 46 [.ref 74, .int (nI kx1), .int (-1), .int (nI c)] [.int (-1000000004)] (am_S b) (am_u (am_u h 73 4 (h 73 4 + 1)) 77 4 ((am_u h 73 4 (h 73 4 + 1)) 77 4 + 1)) _
        refine wp_ret rfl ?_
        exact kk2 _ _ (re_err4 hR)
    · skip
      intro kx2 hkx2 ex2
      subst ex2
      show am_wp L xs _ _ _ _ 15 [.ref 0, .int (nI kx1), .int (nI kx2)] [.int 1] (am_S b) h _
      refine wp_if_t rfl (show ¬ (1 : Int32) = 0 from by decide) ?_
      refine wp_run 1 (pc' := 25) (ls' := [.ref 0, .int (nI kx1), .int (nI kx2)]) (st' := [.ref 0]) rfl ?_
      refine wp_getr 1 rfl rfl rfl ?_
      refine wp_geti (a := 11) (nI c) hc rfl rfl rfl ?_
      refine wp_run 1 (pc' := 33) (ls' := [.ref 0, .int (nI kx1), .int (nI kx2)]) (st' := [.int 7, .int (nI c)]) rfl ?_
      refine wp_icmp rfl (fun (cq33 : (nI c) < 7) => ?_) (fun (cq33 : ¬ ((nI c) < 7)) => ?_)
      · skip
        have cq33n : c < 7 := (nI_ltI (a := c) (b := 7) (by omega) (by omega)).mp cq33
        refine wp_run 1 (pc' := 43) (ls' := [.ref 0, .int (nI kx1), .int (nI kx2)]) (st' := [.ref 0]) rfl ?_
        refine wp_getr 1 rfl rfl rfl ?_
        refine wp_run 2 (pc' := 49) (ls' := [.ref 0, .int (nI kx1), .int (nI kx2)]) (st' := [.int 10, .int (nI kx1), .ref 1]) rfl ?_
        refine wp_idiv rfl (by decide) ?_
        refine wp_run 2 (pc' := 53) (ls' := [.ref 0, .int (nI kx1), .int (nI kx2)]) (st' := [.int 10, .int (nI kx1), .int ((nI kx1) / 10), .ref 1]) rfl ?_
        refine wp_irem rfl (by decide) ?_
        refine wp_run 1 (pc' := 55) (ls' := [.ref 0, .int (nI kx1), .int (nI kx2)]) (st' := [.int (nI kx2), .int (am_rem (nI kx1) 10), .int ((nI kx1) / 10), .ref 1]) rfl ?_
        refine wp_callV (o := 1) (as := [.int ((nI kx1) / 10), .int (am_rem (nI kx1) 10), .int (nI kx2)]) (rest := []) (els := [.ref 1, .int ((nI kx1) / 10), .int (am_rem (nI kx1) 10), .int (nI kx2), am_du]) rfl rfl rfl rfl rfl rfl rfl rfl (by omega) ?_
        refine sp_addCoat (c := c) hc (by omega) ?_
        show am_wp L xs _ _ _ _ 58 [.ref 0, .int (nI kx1), .int (nI kx2)] [.int (nI c)] (am_S b) (am_u (am_u (am_u (am_u h 6 c ((nI kx1) / 10)) 7 c (am_rem (nI kx1) 10)) 8 c (nI kx2)) 1 11 (nI (c + 1))) _
        refine wp_ret rfl ?_
        refine kk _ _ _ (fun ms2 Q2 kk2 => ?_)
        refine wp_run 1 (pc' := 1) (ls' := [.ref 74, .int (nI kx1), .int (nI kx2), am_du]) (st' := [.int (nI kx1)]) rfl ?_
        refine wp_callS (as := [.int (nI kx1)]) (rest := []) (els := [.int (nI kx1)]) rfl rfl rfl rfl rfl rfl rfl rfl (by omega) ?_
        refine sp_m_isKm (by omega) (fun _ _ _ => ?_) (fun q => absurd rfl (q kx1 (by omega)))
        show am_wp L xs _ _ _ _ 4 [.ref 74, .int (nI kx1), .int (nI kx2), am_du] [.int 1] (am_S b) (am_u (am_u (am_u (am_u h 6 c ((nI kx1) / 10)) 7 c (am_rem (nI kx1) 10)) 8 c (nI kx2)) 1 11 (nI (c + 1))) _
        refine wp_if_f rfl (show ¬ ((1 : Int32) = 0) from by decide) ?_
        refine wp_run 2 (pc' := 9) (ls' := [.ref 74, .int (nI kx1), .int (nI kx2), am_du]) (st' := [.int (-1), .int (nI kx2)]) rfl ?_
        refine wp_icmp_f rfl (show ¬ ((nI kx2) = (-1)) from pu_ne1 (by omega)) ?_
        refine wp_run 2 (pc' := 14) (ls' := [.ref 74, .int (nI kx1), .int (nI kx2), am_du]) (st' := [.int (nI kx2), .ref 74]) rfl ?_
        refine wp_callV (o := 74) (as := [.int (nI kx2)]) (rest := []) (els := [.ref 74, .int (nI kx2)]) rfl rfl rfl rfl rfl rfl rfl rfl (by omega) ?_
        refine sp_m_isGuest hm2 hn7 (by omega) (fun _ _ _ => ?_) (fun q => absurd rfl (q kx2 (by omega)))
        show am_wp L xs _ _ _ _ 17 [.ref 74, .int (nI kx1), .int (nI kx2), am_du] [.int 1] (am_S b) (am_u (am_u (am_u (am_u h 6 c ((nI kx1) / 10)) 7 c (am_rem (nI kx1) 10)) 8 c (nI kx2)) 1 11 (nI (c + 1))) _
        refine wp_if_t rfl (show ¬ (1 : Int32) = 0 from by decide) ?_
        refine wp_run 1 (pc' := 28) (ls' := [.ref 74, .int (nI kx1), .int (nI kx2), am_du]) (st' := [.ref 74]) rfl ?_
        refine wp_getr 75 rfl rfl rfl ?_
        refine wp_run 1 (pc' := 32) (ls' := [.ref 74, .int (nI kx1), .int (nI kx2), am_du]) (st' := [.int 3, .ref 75]) rfl ?_
        refine wp_ald (i := 3) (nI c) hm3 rfl rfl rfl (by decide) rfl ?_
        refine wp_run 3 (pc' := 37) (ls' := [.ref 74, .int (nI kx1), .int (nI kx2), .int (nI c)]) (st' := [.int 7, .int (nI c)]) rfl ?_
        refine wp_icmp_t rfl (show ¬ (nI c) = 7 from mt (nI_eq (a := c) (b := 7) (by omega) (by omega)).mp (by omega)) ?_
        refine wp_run 1 (pc' := 48) (ls' := [.ref 74, .int (nI kx1), .int (nI kx2), .int (nI c)]) (st' := [.ref 74]) rfl ?_
        refine wp_getr 75 rfl rfl rfl ?_
        refine wp_run 2 (pc' := 53) (ls' := [.ref 74, .int (nI kx1), .int (nI kx2), .int (nI c)]) (st' := [.int 3, .ref 75, .int 3, .ref 75]) rfl ?_
        refine wp_ald (i := 3) (nI c) hm3 rfl rfl rfl (by decide) rfl ?_
        refine wp_run 2 (pc' := 56) (ls' := [.ref 74, .int (nI kx1), .int (nI kx2), .int (nI c)]) (st' := [.int ((nI c) + 1), .int 3, .ref 75]) rfl ?_
        rw [show (((nI c) + 1) : Int32) = (nI (c + 1)) from nI_add c 1]
        refine wp_ast rfl rfl rfl (by decide) rfl ?_
        refine wp_run 1 (pc' := 58) (ls' := [.ref 74, .int (nI kx1), .int (nI kx2), .int (nI c)]) (st' := [.ref 74]) rfl ?_
        refine wp_getr 75 rfl rfl rfl ?_
        refine wp_run 7 (pc' := 70) (ls' := [.ref 74, .int (nI kx1), .int (nI kx2), .int (nI c)]) (st' := [.int 10, .int (nI kx1), .int (35 + (3 * (nI c))), .ref 75]) rfl ?_
        rw [show ((3 * (nI c)) : Int32) = (nI (3 * c)) from pk_mul 3 c]
        rw [show ((35 + (nI (3 * c))) : Int32) = (nI (35 + (3 * c))) from nI_add 35 (3 * c)]
        refine wp_idiv rfl (by decide) ?_
        refine wp_ast rfl rfl rfl (by omega) rfl ?_
        refine wp_run 1 (pc' := 73) (ls' := [.ref 74, .int (nI kx1), .int (nI kx2), .int (nI c)]) (st' := [.ref 74]) rfl ?_
        refine wp_getr 75 rfl rfl rfl ?_
        refine wp_run 9 (pc' := 87) (ls' := [.ref 74, .int (nI kx1), .int (nI kx2), .int (nI c)]) (st' := [.int 10, .int (nI kx1), .int ((35 + (3 * (nI c))) + 1), .ref 75]) rfl ?_
        rw [show ((3 * (nI c)) : Int32) = (nI (3 * c)) from pk_mul 3 c]
        rw [show ((35 + (nI (3 * c))) : Int32) = (nI (35 + (3 * c))) from nI_add 35 (3 * c)]
        rw [show (((nI (35 + (3 * c))) + 1) : Int32) = (nI ((35 + (3 * c)) + 1)) from nI_add (35 + (3 * c)) 1]
        refine wp_irem rfl (by decide) ?_
        refine wp_ast rfl rfl rfl (by omega) rfl ?_
        refine wp_run 1 (pc' := 90) (ls' := [.ref 74, .int (nI kx1), .int (nI kx2), .int (nI c)]) (st' := [.ref 74]) rfl ?_
        refine wp_getr 75 rfl rfl rfl ?_
        refine wp_run 8 (pc' := 102) (ls' := [.ref 74, .int (nI kx1), .int (nI kx2), .int (nI c)]) (st' := [.int (nI kx2), .int ((35 + (3 * (nI c))) + 2), .ref 75]) rfl ?_
        rw [show ((3 * (nI c)) : Int32) = (nI (3 * c)) from pk_mul 3 c]
        rw [show ((35 + (nI (3 * c))) : Int32) = (nI (35 + (3 * c))) from nI_add 35 (3 * c)]
        rw [show (((nI (35 + (3 * c))) + 2) : Int32) = (nI ((35 + (3 * c)) + 2)) from nI_add (35 + (3 * c)) 2]
        refine wp_ast rfl rfl rfl (by omega) rfl ?_
        refine wp_run 1 (pc' := 104) (ls' := [.ref 74, .int (nI kx1), .int (nI kx2), .int (nI c)]) (st' := [.int (nI c)]) rfl ?_
        refine wp_ret rfl ?_
        have Hn : re_house n (c + 1) t tp wt s0 s1 p0 p1 (upd (h 1) 11 (nI (c + 1))) (h 2) (h 3) (h 4) (h 5) (upd (h 6) c ((nI kx1) / 10)) (upd (h 7) c (am_rem (nI kx1) 10)) (upd (h 8) c (nI kx2)) (h 9) (h 10) (h 11) (h 12) (h 14) (h 15) (h 16) (h 19) (h 20) (h 21) (upd (upd (upd (upd (h 75) 3 (nI (c + 1))) (35 + (3 * c)) ((nI kx1) / 10)) ((35 + (3 * c)) + 1) (am_rem (nI kx1) 10)) ((35 + (3 * c)) + 2) (nI kx2)) := by
          refine ⟨?_, ?_, ?_, ?_, ?_, ?_, ?_, ?_, ?_, ?_, ?_, ?_⟩
          · exact ⟨(show (upd (h 1) 11 (nI (c + 1))) 10 = h 1 10 from (if_neg (by omega))).trans H.1.1, (show (upd (upd (upd (upd (h 75) 3 (nI (c + 1))) (35 + (3 * c)) ((nI kx1) / 10)) ((35 + (3 * c)) + 1) (am_rem (nI kx1) 10)) ((35 + (3 * c)) + 2) (nI kx2)) 2 = h 75 2 from ((if_neg (by omega)).trans ((if_neg (by omega)).trans ((if_neg (by omega)).trans (if_neg (by omega)))))).trans H.1.2.1, H.1.2.2⟩
          · exact ⟨(show (upd (h 1) 11 (nI (c + 1))) 11 = (nI (c + 1)) from (if_pos (by omega))), (show (upd (upd (upd (upd (h 75) 3 (nI (c + 1))) (35 + (3 * c)) ((nI kx1) / 10)) ((35 + (3 * c)) + 1) (am_rem (nI kx1) 10)) ((35 + (3 * c)) + 2) (nI kx2)) 3 = (nI (c + 1)) from ((if_neg (by omega)).trans ((if_neg (by omega)).trans ((if_neg (by omega)).trans (if_pos (by omega)))))), by omega⟩
          · exact ⟨(show (upd (h 1) 11 (nI (c + 1))) 12 = h 1 12 from (if_neg (by omega))).trans H.2.2.1.1, (show (upd (upd (upd (upd (h 75) 3 (nI (c + 1))) (35 + (3 * c)) ((nI kx1) / 10)) ((35 + (3 * c)) + 1) (am_rem (nI kx1) 10)) ((35 + (3 * c)) + 2) (nI kx2)) 0 = h 75 0 from ((if_neg (by omega)).trans ((if_neg (by omega)).trans ((if_neg (by omega)).trans (if_neg (by omega)))))).trans H.2.2.1.2.1, H.2.2.1.2.2⟩
          · exact ⟨(show (upd (h 1) 11 (nI (c + 1))) 13 = h 1 13 from (if_neg (by omega))).trans (H.2.2.2.1.1.trans (show (upd (upd (upd (upd (h 75) 3 (nI (c + 1))) (35 + (3 * c)) ((nI kx1) / 10)) ((35 + (3 * c)) + 1) (am_rem (nI kx1) 10)) ((35 + (3 * c)) + 2) (nI kx2)) 4 = h 75 4 from ((if_neg (by omega)).trans ((if_neg (by omega)).trans ((if_neg (by omega)).trans (if_neg (by omega)))))).symm), (show (upd (h 1) 11 (nI (c + 1))) 14 = h 1 14 from (if_neg (by omega))).trans (H.2.2.2.1.2.trans (show (upd (upd (upd (upd (h 75) 3 (nI (c + 1))) (35 + (3 * c)) ((nI kx1) / 10)) ((35 + (3 * c)) + 1) (am_rem (nI kx1) 10)) ((35 + (3 * c)) + 2) (nI kx2)) 1 = h 75 1 from ((if_neg (by omega)).trans ((if_neg (by omega)).trans ((if_neg (by omega)).trans (if_neg (by omega)))))).symm)⟩
          · exact re_g5 (m2 := (upd (upd (upd (upd (h 75) 3 (nI (c + 1))) (35 + (3 * c)) ((nI kx1) / 10)) ((35 + (3 * c)) + 1) (am_rem (nI kx1) 10)) ((35 + (3 * c)) + 2) (nI kx2))) H.2.2.2.2.1 (fun i h1 h2 => ((if_neg (by omega)).trans ((if_neg (by omega)).trans ((if_neg (by omega)).trans (if_neg (by omega))))))
          · exact fun g hg => (Decidable.em (g = c)).elim (fun e => by rw [e]; exact ⟨(show (upd (h 6) c ((nI kx1) / 10)) c = ((nI kx1) / 10) from (if_pos (by omega))).trans (show (upd (upd (upd (upd (h 75) 3 (nI (c + 1))) (35 + (3 * c)) ((nI kx1) / 10)) ((35 + (3 * c)) + 1) (am_rem (nI kx1) 10)) ((35 + (3 * c)) + 2) (nI kx2)) (35 + 3 * c) = ((nI kx1) / 10) from ((if_neg (by omega)).trans ((if_neg (by omega)).trans (if_pos (by omega))))).symm, (show (upd (h 7) c (am_rem (nI kx1) 10)) c = (am_rem (nI kx1) 10) from (if_pos (by omega))).trans (show (upd (upd (upd (upd (h 75) 3 (nI (c + 1))) (35 + (3 * c)) ((nI kx1) / 10)) ((35 + (3 * c)) + 1) (am_rem (nI kx1) 10)) ((35 + (3 * c)) + 2) (nI kx2)) (35 + 3 * c + 1) = (am_rem (nI kx1) 10) from ((if_neg (by omega)).trans (if_pos (by omega)))).symm, (show (upd (h 8) c (nI kx2)) c = (nI kx2) from (if_pos (by omega))).trans (show (upd (upd (upd (upd (h 75) 3 (nI (c + 1))) (35 + (3 * c)) ((nI kx1) / 10)) ((35 + (3 * c)) + 1) (am_rem (nI kx1) 10)) ((35 + (3 * c)) + 2) (nI kx2)) (35 + 3 * c + 2) = (nI kx2) from (if_pos (by omega))).symm⟩) (fun e => ⟨(show (upd (h 6) c ((nI kx1) / 10)) g = h 6 g from (if_neg (by omega))).trans ((H.2.2.2.2.2.1 g hg).1.trans (show (upd (upd (upd (upd (h 75) 3 (nI (c + 1))) (35 + (3 * c)) ((nI kx1) / 10)) ((35 + (3 * c)) + 1) (am_rem (nI kx1) 10)) ((35 + (3 * c)) + 2) (nI kx2)) (35 + 3 * g) = h 75 (35 + 3 * g) from ((if_neg (by omega)).trans ((if_neg (by omega)).trans ((if_neg (by omega)).trans (if_neg (by omega)))))).symm), (show (upd (h 7) c (am_rem (nI kx1) 10)) g = h 7 g from (if_neg (by omega))).trans ((H.2.2.2.2.2.1 g hg).2.1.trans (show (upd (upd (upd (upd (h 75) 3 (nI (c + 1))) (35 + (3 * c)) ((nI kx1) / 10)) ((35 + (3 * c)) + 1) (am_rem (nI kx1) 10)) ((35 + (3 * c)) + 2) (nI kx2)) (35 + 3 * g + 1) = h 75 (35 + 3 * g + 1) from ((if_neg (by omega)).trans ((if_neg (by omega)).trans ((if_neg (by omega)).trans (if_neg (by omega)))))).symm), (show (upd (h 8) c (nI kx2)) g = h 8 g from (if_neg (by omega))).trans ((H.2.2.2.2.2.1 g hg).2.2.trans (show (upd (upd (upd (upd (h 75) 3 (nI (c + 1))) (35 + (3 * c)) ((nI kx1) / 10)) ((35 + (3 * c)) + 1) (am_rem (nI kx1) 10)) ((35 + (3 * c)) + 2) (nI kx2)) (35 + 3 * g + 2) = h 75 (35 + 3 * g + 2) from ((if_neg (by omega)).trans ((if_neg (by omega)).trans ((if_neg (by omega)).trans (if_neg (by omega)))))).symm)⟩)
          · exact fun g hg => by obtain ⟨q1, q2, q3, q4⟩ := H.2.2.2.2.2.2.1 g hg; exact ⟨q1, q2, q3, q4.elim Or.inl (fun ⟨j, hj, q⟩ => Or.inr ⟨j, by omega, q⟩)⟩
          · exact fun j hj => (Decidable.em (j = c)).elim (fun e => by obtain ⟨⟨a1, a2, a3⟩, ⟨a4, a5, a6⟩⟩ := pu_km kx1 (by omega); rw [e]; exact ⟨⟨a1, a2, (show (upd (h 6) c ((nI kx1) / 10)) c = ((nI kx1) / 10) from (if_pos (by omega))).trans a3⟩, ⟨a4, a5, (show (upd (h 7) c (am_rem (nI kx1) 10)) c = (am_rem (nI kx1) 10) from (if_pos (by omega))).trans a6⟩, Or.inr ⟨kx2, by omega, (show (upd (h 8) c (nI kx2)) c = (nI kx2) from (if_pos (by omega)))⟩⟩) (fun e => by obtain ⟨⟨a1, a2, a3⟩, ⟨a4, a5, a6⟩, q⟩ := H.2.2.2.2.2.2.2.1 j (by omega); exact ⟨⟨a1, a2, (show (upd (h 6) c ((nI kx1) / 10)) j = h 6 j from (if_neg (by omega))).trans a3⟩, ⟨a4, a5, (show (upd (h 7) c (am_rem (nI kx1) 10)) j = h 7 j from (if_neg (by omega))).trans a6⟩, q.elim (fun q => Or.inl ((show (upd (h 8) c (nI kx2)) j = h 8 j from (if_neg (by omega))).trans q)) (fun ⟨g, hg, q⟩ => Or.inr ⟨g, hg, (show (upd (h 8) c (nI kx2)) j = h 8 j from (if_neg (by omega))).trans q⟩)⟩)
          · exact ⟨(show (h 9) 1 = h 9 1 from rfl).trans H.2.2.2.2.2.2.2.2.1.1, (show (upd (upd (upd (upd (h 75) 3 (nI (c + 1))) (35 + (3 * c)) ((nI kx1) / 10)) ((35 + (3 * c)) + 1) (am_rem (nI kx1) 10)) ((35 + (3 * c)) + 2) (nI kx2)) 5 = h 75 5 from ((if_neg (by omega)).trans ((if_neg (by omega)).trans ((if_neg (by omega)).trans (if_neg (by omega)))))).trans H.2.2.2.2.2.2.2.2.1.2.1, H.2.2.2.2.2.2.2.2.1.2.2.1, re_g9 (m2 := (upd (upd (upd (upd (h 75) 3 (nI (c + 1))) (35 + (3 * c)) ((nI kx1) / 10)) ((35 + (3 * c)) + 1) (am_rem (nI kx1) 10)) ((35 + (3 * c)) + 2) (nI kx2))) H.2.2.2.2.2.2.2.2.1.2.2.1 H.2.2.2.2.2.2.2.2.1.2.2.2 (fun i h1 h2 => ((if_neg (by omega)).trans ((if_neg (by omega)).trans ((if_neg (by omega)).trans (if_neg (by omega))))))⟩
          · exact ⟨(show (h 11) 1 = h 11 1 from rfl).trans H.2.2.2.2.2.2.2.2.2.1.1, (show (upd (upd (upd (upd (h 75) 3 (nI (c + 1))) (35 + (3 * c)) ((nI kx1) / 10)) ((35 + (3 * c)) + 1) (am_rem (nI kx1) 10)) ((35 + (3 * c)) + 2) (nI kx2)) 6 = h 75 6 from ((if_neg (by omega)).trans ((if_neg (by omega)).trans ((if_neg (by omega)).trans (if_neg (by omega)))))).trans H.2.2.2.2.2.2.2.2.2.1.2.1, H.2.2.2.2.2.2.2.2.2.1.2.2.1, re_g10 (m2 := (upd (upd (upd (upd (h 75) 3 (nI (c + 1))) (35 + (3 * c)) ((nI kx1) / 10)) ((35 + (3 * c)) + 1) (am_rem (nI kx1) 10)) ((35 + (3 * c)) + 2) (nI kx2))) H.2.2.2.2.2.2.2.2.2.1.2.2.1 H.2.2.2.2.2.2.2.2.2.1.2.2.2 (fun i h1 h2 => ((if_neg (by omega)).trans ((if_neg (by omega)).trans ((if_neg (by omega)).trans (if_neg (by omega))))))⟩
          · exact re_law_m (m2 := (upd (upd (upd (upd (h 75) 3 (nI (c + 1))) (35 + (3 * c)) ((nI kx1) / 10)) ((35 + (3 * c)) + 1) (am_rem (nI kx1) 10)) ((35 + (3 * c)) + 2) (nI kx2))) H.2.2.2.2.2.2.2.2.2.2.1 (fun i h1 h2 => ((if_neg (by omega)).trans ((if_neg (by omega)).trans ((if_neg (by omega)).trans (if_neg (by omega))))))
          · exact re_law_m (m2 := (upd (upd (upd (upd (h 75) 3 (nI (c + 1))) (35 + (3 * c)) ((nI kx1) / 10)) ((35 + (3 * c)) + 1) (am_rem (nI kx1) 10)) ((35 + (3 * c)) + 2) (nI kx2))) H.2.2.2.2.2.2.2.2.2.2.2 (fun i h1 h2 => ((if_neg (by omega)).trans ((if_neg (by omega)).trans ((if_neg (by omega)).trans (if_neg (by omega))))))
        exact kk2 _ _ ⟨⟨n, (c + 1), t, tp, wt, s0, s1, p0, p1, Hn⟩, re_im_s hI, hE, hS0, hS1, hS2, hS3, hT⟩
      · skip
        have cq33n : ¬ (c < 7) := fun q => cq33 ((nI_ltI (a := c) (b := 7) (by omega) (by omega)).mpr q)
        refine wp_run 2 (pc' := 38) (ls' := [.ref 0, .int (nI kx1), .int (nI kx2)]) (st' := [.int 4, .ref 0]) rfl ?_
        refine wp_callV (o := 0) (as := [.int 4]) (rest := []) (els := [.ref 0, .int 4]) rfl rfl rfl rfl rfl rfl rfl rfl (by omega) ?_
        refine sp_refuse4 (by omega) ?_
        show am_wp L xs _ _ _ _ 41 [.ref 0, .int (nI kx1), .int (nI kx2)] [.int (-1000000004)] (am_S b) (am_u h 73 4 (h 73 4 + 1)) _
        refine wp_ret rfl ?_
        refine kk _ _ _ (fun ms2 Q2 kk2 => ?_)
        refine wp_run 1 (pc' := 1) (ls' := [.ref 74, .int (nI kx1), .int (nI kx2), am_du]) (st' := [.int (nI kx1)]) rfl ?_
        refine wp_callS (as := [.int (nI kx1)]) (rest := []) (els := [.int (nI kx1)]) rfl rfl rfl rfl rfl rfl rfl rfl (by omega) ?_
        refine sp_m_isKm (by omega) (fun _ _ _ => ?_) (fun q => absurd rfl (q kx1 (by omega)))
        show am_wp L xs _ _ _ _ 4 [.ref 74, .int (nI kx1), .int (nI kx2), am_du] [.int 1] (am_S b) (am_u h 73 4 (h 73 4 + 1)) _
        refine wp_if_f rfl (show ¬ ((1 : Int32) = 0) from by decide) ?_
        refine wp_run 2 (pc' := 9) (ls' := [.ref 74, .int (nI kx1), .int (nI kx2), am_du]) (st' := [.int (-1), .int (nI kx2)]) rfl ?_
        refine wp_icmp_f rfl (show ¬ ((nI kx2) = (-1)) from pu_ne1 (by omega)) ?_
        refine wp_run 2 (pc' := 14) (ls' := [.ref 74, .int (nI kx1), .int (nI kx2), am_du]) (st' := [.int (nI kx2), .ref 74]) rfl ?_
        refine wp_callV (o := 74) (as := [.int (nI kx2)]) (rest := []) (els := [.ref 74, .int (nI kx2)]) rfl rfl rfl rfl rfl rfl rfl rfl (by omega) ?_
        refine sp_m_isGuest hm2 hn7 (by omega) (fun _ _ _ => ?_) (fun q => absurd rfl (q kx2 (by omega)))
        show am_wp L xs _ _ _ _ 17 [.ref 74, .int (nI kx1), .int (nI kx2), am_du] [.int 1] (am_S b) (am_u h 73 4 (h 73 4 + 1)) _
        refine wp_if_t rfl (show ¬ (1 : Int32) = 0 from by decide) ?_
        refine wp_run 1 (pc' := 28) (ls' := [.ref 74, .int (nI kx1), .int (nI kx2), am_du]) (st' := [.ref 74]) rfl ?_
        refine wp_getr 75 rfl rfl rfl ?_
        refine wp_run 1 (pc' := 32) (ls' := [.ref 74, .int (nI kx1), .int (nI kx2), am_du]) (st' := [.int 3, .ref 75]) rfl ?_
        refine wp_ald (i := 3) (nI c) hm3 rfl rfl rfl (by decide) rfl ?_
        refine wp_run 3 (pc' := 37) (ls' := [.ref 74, .int (nI kx1), .int (nI kx2), .int (nI c)]) (st' := [.int 7, .int (nI c)]) rfl ?_
        refine wp_icmp_f rfl (show ¬ (¬ (nI c) = 7) from (fun q => q ((nI_eq (a := c) (b := 7) (by omega) (by omega)).mpr (by omega)))) ?_
        refine wp_run 2 (pc' := 43) (ls' := [.ref 74, .int (nI kx1), .int (nI kx2), .int (nI c)]) (st' := [.int (-1000000004), .ref 74]) rfl ?_
        refine wp_callV (o := 74) (as := [.int (-1000000004)]) (rest := []) (els := [.ref 74, .int (-1000000004)]) rfl rfl rfl rfl rfl rfl rfl rfl (by omega) ?_
        refine sp_error4 ?_
        show am_wp L xs _ _ _ _ 46 [.ref 74, .int (nI kx1), .int (nI kx2), .int (nI c)] [.int (-1000000004)] (am_S b) (am_u (am_u h 73 4 (h 73 4 + 1)) 77 4 ((am_u h 73 4 (h 73 4 + 1)) 77 4 + 1)) _
        refine wp_ret rfl ?_
        exact kk2 _ _ (re_err4 hR)
    · skip
      intro hm1x2 hm2x2
      have hmx2 := And.intro hm1x2 hm2x2
      show am_wp L xs _ _ _ _ 15 [.ref 0, .int (nI kx1), .int x2] [.int 0] (am_S b) h _
      refine wp_if_f rfl (show ¬ (¬ (0 : Int32) = 0) from by decide) ?_
      refine wp_run 2 (pc' := 20) (ls' := [.ref 0, .int (nI kx1), .int x2]) (st' := [.int 1, .ref 0]) rfl ?_
      refine wp_callV (o := 0) (as := [.int 1]) (rest := []) (els := [.ref 0, .int 1]) rfl rfl rfl rfl rfl rfl rfl rfl (by omega) ?_
      refine sp_refuse1 (by omega) ?_
      show am_wp L xs _ _ _ _ 23 [.ref 0, .int (nI kx1), .int x2] [.int (-1000000001)] (am_S b) (am_u h 73 1 (h 73 1 + 1)) _
      refine wp_ret rfl ?_
      refine kk _ _ _ (fun ms2 Q2 kk2 => ?_)
      refine wp_run 1 (pc' := 1) (ls' := [.ref 74, .int (nI kx1), .int x2, am_du]) (st' := [.int (nI kx1)]) rfl ?_
      refine wp_callS (as := [.int (nI kx1)]) (rest := []) (els := [.int (nI kx1)]) rfl rfl rfl rfl rfl rfl rfl rfl (by omega) ?_
      refine sp_m_isKm (by omega) (fun _ _ _ => ?_) (fun q => absurd rfl (q kx1 (by omega)))
      show am_wp L xs _ _ _ _ 4 [.ref 74, .int (nI kx1), .int x2, am_du] [.int 1] (am_S b) (am_u h 73 1 (h 73 1 + 1)) _
      refine wp_if_f rfl (show ¬ ((1 : Int32) = 0) from by decide) ?_
      refine wp_run 2 (pc' := 9) (ls' := [.ref 74, .int (nI kx1), .int x2, am_du]) (st' := [.int (-1), .int x2]) rfl ?_
      refine wp_icmp_f rfl (show ¬ (x2 = (-1)) from hmx2.1) ?_
      refine wp_run 2 (pc' := 14) (ls' := [.ref 74, .int (nI kx1), .int x2, am_du]) (st' := [.int x2, .ref 74]) rfl ?_
      refine wp_callV (o := 74) (as := [.int x2]) (rest := []) (els := [.ref 74, .int x2]) rfl rfl rfl rfl rfl rfl rfl rfl (by omega) ?_
      refine sp_m_isGuest hm2 hn7 (by omega) (fun k hk e => absurd e (hmx2.2 k hk)) (fun _ => ?_)
      show am_wp L xs _ _ _ _ 17 [.ref 74, .int (nI kx1), .int x2, am_du] [.int 0] (am_S b) (am_u h 73 1 (h 73 1 + 1)) _
      refine wp_if_f rfl (show ¬ (¬ (0 : Int32) = 0) from by decide) ?_
      refine wp_run 2 (pc' := 23) (ls' := [.ref 74, .int (nI kx1), .int x2, am_du]) (st' := [.int (-1000000001), .ref 74]) rfl ?_
      refine wp_callV (o := 74) (as := [.int (-1000000001)]) (rest := []) (els := [.ref 74, .int (-1000000001)]) rfl rfl rfl rfl rfl rfl rfl rfl (by omega) ?_
      refine sp_error1 ?_
      show am_wp L xs _ _ _ _ 26 [.ref 74, .int (nI kx1), .int x2, am_du] [.int (-1000000001)] (am_S b) (am_u (am_u h 73 1 (h 73 1 + 1)) 77 1 ((am_u h 73 1 (h 73 1 + 1)) 77 1 + 1)) _
      refine wp_ret rfl ?_
      exact kk2 _ _ (re_err1 hR)
  · skip
    intro hnx1
    show am_wp L xs _ _ _ _ 4 [.ref 0, .int x1, .int x2] [.int 0] (am_S b) h _
    refine wp_if_t rfl (show (0 : Int32) = 0 from by decide) ?_
    refine wp_run 2 (pc' := 20) (ls' := [.ref 0, .int x1, .int x2]) (st' := [.int 1, .ref 0]) rfl ?_
    refine wp_callV (o := 0) (as := [.int 1]) (rest := []) (els := [.ref 0, .int 1]) rfl rfl rfl rfl rfl rfl rfl rfl (by omega) ?_
    refine sp_refuse1 (by omega) ?_
    show am_wp L xs _ _ _ _ 23 [.ref 0, .int x1, .int x2] [.int (-1000000001)] (am_S b) (am_u h 73 1 (h 73 1 + 1)) _
    refine wp_ret rfl ?_
    refine kk _ _ _ (fun ms2 Q2 kk2 => ?_)
    refine wp_run 1 (pc' := 1) (ls' := [.ref 74, .int x1, .int x2, am_du]) (st' := [.int x1]) rfl ?_
    refine wp_callS (as := [.int x1]) (rest := []) (els := [.int x1]) rfl rfl rfl rfl rfl rfl rfl rfl (by omega) ?_
    refine sp_m_isKm (by omega) (fun k hk e => absurd e (hnx1 k hk)) (fun _ => ?_)
    show am_wp L xs _ _ _ _ 4 [.ref 74, .int x1, .int x2, am_du] [.int 0] (am_S b) (am_u h 73 1 (h 73 1 + 1)) _
    refine wp_if_t rfl (show (0 : Int32) = 0 from by decide) ?_
    refine wp_run 2 (pc' := 23) (ls' := [.ref 74, .int x1, .int x2, am_du]) (st' := [.int (-1000000001), .ref 74]) rfl ?_
    refine wp_callV (o := 74) (as := [.int (-1000000001)]) (rest := []) (els := [.ref 74, .int (-1000000001)]) rfl rfl rfl rfl rfl rfl rfl rfl (by omega) ?_
    refine sp_error1 ?_
    show am_wp L xs _ _ _ _ 26 [.ref 74, .int x1, .int x2, am_du] [.int (-1000000001)] (am_S b) (am_u (am_u h 73 1 (h 73 1 + 1)) 77 1 ((am_u h 73 1 (h 73 1 + 1)) 77 1 + 1)) _
    refine wp_ret rfl ?_
    exact kk2 _ _ (re_err1 hR)
theorem op_become {L : Nat} {xs : Nat → Int32} {d ms b N : Nat} {h : am_HI} {Q : am_Q} {x1 : Int32} {x2 : Int32} (hd : 30 ≤ d) (hR : am_Rel N h) (hN : N < 100000)
    (kk : ∀ v b1 h1, (∀ ms2 Q2, (∀ b2 h2, am_Rel (N + 1) h2 → Q2 (some (.int v)) (am_S b2) h2) → am_wp L xs d 0 ms2 150 0 [.ref 74, .int x1, .int x2] [] (am_S b1) h1 Q2) → Q (some (.int v)) (am_S b1) h1) :
    am_wp L xs d 0 ms 32 0 [.ref 0, .int x1, .int x2, am_du] [] (am_S b) h Q := by
  obtain ⟨⟨n, c, t, tp, wt, s0, s1, p0, p1, H⟩, hI, hE, hS0, hS1, hS2, hS3, hT⟩ := id hR
  have hn := H.1.1
  have hm2 := H.1.2.1
  have hn7 := H.1.2.2
  have hc := H.2.1.1
  have hm3 := H.2.1.2.1
  have hc7 := H.2.1.2.2
  have ht := H.2.2.1.1
  have hm0 := H.2.2.1.2.1
  have ht9 := H.2.2.1.2.2
  have HS := re_hs H
  have HM := re_ms H
  refine wp_run 1 (pc' := 1) (ls' := [.ref 0, .int x1, .int x2, am_du]) (st' := [.ref 0]) rfl ?_
  refine wp_getr 1 rfl rfl rfl ?_
  refine wp_run 1 (pc' := 5) (ls' := [.ref 0, .int x1, .int x2, am_du]) (st' := [.int x1, .ref 1]) rfl ?_
  refine wp_callV (o := 1) (as := [.int x1]) (rest := []) (els := [.ref 1, .int x1]) rfl rfl rfl rfl rfl rfl rfl rfl (by omega) ?_
  refine sp_hasCoat hc hc7 (by omega) ?_ ?_
  · skip
    intro kx1 hkx1 ex1
    subst ex1
    show am_wp L xs _ _ _ _ 8 [.ref 0, .int (nI kx1), .int x2, am_du] [.int 1] (am_S b) h _
    refine wp_if_f rfl (show ¬ ((1 : Int32) = 0) from by decide) ?_
    refine wp_run 1 (pc' := 12) (ls' := [.ref 0, .int (nI kx1), .int x2, am_du]) (st' := [.int x2]) rfl ?_
    refine wp_callS (as := [.int x2]) (rest := []) (els := [.int x2]) rfl rfl rfl rfl rfl rfl rfl rfl (by omega) ?_
    refine sp_x_isKindAndMark (by omega) ?_ ?_
    · skip
      intro kx2 hkx2 ex2
      subst ex2
      show am_wp L xs _ _ _ _ 15 [.ref 0, .int (nI kx1), .int (nI kx2), am_du] [.int 1] (am_S b) h _
      refine wp_if_t rfl (show ¬ (1 : Int32) = 0 from by decide) ?_
      refine wp_run 1 (pc' := 25) (ls' := [.ref 0, .int (nI kx1), .int (nI kx2), am_du]) (st' := [.ref 0]) rfl ?_
      refine wp_getr 1 rfl rfl rfl ?_
      refine wp_getr 6 rfl rfl rfl ?_
      refine wp_run 1 (pc' := 32) (ls' := [.ref 0, .int (nI kx1), .int (nI kx2), am_du]) (st' := [.int (nI kx1), .ref 6]) rfl ?_
      refine wp_ald (i := kx1) (h 6 kx1) rfl rfl rfl rfl (by omega) rfl ?_
      refine wp_run 2 (pc' := 35) (ls' := [.ref 0, .int (nI kx1), .int (nI kx2), .int (h 6 kx1)]) (st' := [.ref 0]) rfl ?_
      refine wp_getr 1 rfl rfl rfl ?_
      refine wp_getr 6 rfl rfl rfl ?_
      refine wp_run 3 (pc' := 45) (ls' := [.ref 0, .int (nI kx1), .int (nI kx2), .int (h 6 kx1)]) (st' := [.int 10, .int (nI kx2), .int (nI kx1), .ref 6]) rfl ?_
      refine wp_idiv rfl (by decide) ?_
      refine wp_ast rfl rfl rfl (by omega) rfl ?_
      refine wp_run 1 (pc' := 48) (ls' := [.ref 0, .int (nI kx1), .int (nI kx2), .int (h 6 kx1)]) (st' := [.ref 0]) rfl ?_
      refine wp_getr 1 rfl rfl rfl ?_
      refine wp_getr 7 rfl rfl rfl ?_
      refine wp_run 3 (pc' := 58) (ls' := [.ref 0, .int (nI kx1), .int (nI kx2), .int (h 6 kx1)]) (st' := [.int 10, .int (nI kx2), .int (nI kx1), .ref 7]) rfl ?_
      refine wp_irem rfl (by decide) ?_
      refine wp_ast rfl rfl rfl (by omega) rfl ?_
      refine wp_run 1 (pc' := 61) (ls' := [.ref 0, .int (nI kx1), .int (nI kx2), .int (h 6 kx1)]) (st' := [.int (h 6 kx1)]) rfl ?_
      refine wp_ret rfl ?_
      refine kk _ _ _ (fun ms2 Q2 kk2 => ?_)
      refine wp_run 2 (pc' := 2) (ls' := [.ref 74, .int (nI kx1), .int (nI kx2)]) (st' := [.int (nI kx1), .ref 74]) rfl ?_
      refine wp_callV (o := 74) (as := [.int (nI kx1)]) (rest := []) (els := [.ref 74, .int (nI kx1)]) rfl rfl rfl rfl rfl rfl rfl rfl (by omega) ?_
      refine sp_m_isCoat hm3 hc7 (by omega) (fun _ _ _ => ?_) (fun q => absurd rfl (q kx1 (by omega)))
      show am_wp L xs _ _ _ _ 5 [.ref 74, .int (nI kx1), .int (nI kx2)] [.int 1] (am_S b) (am_u (am_u h 6 kx1 ((nI kx2) / 10)) 7 kx1 (am_rem (nI kx2) 10)) _
      refine wp_if_f rfl (show ¬ ((1 : Int32) = 0) from by decide) ?_
      refine wp_run 1 (pc' := 9) (ls' := [.ref 74, .int (nI kx1), .int (nI kx2)]) (st' := [.int (nI kx2)]) rfl ?_
      refine wp_callS (as := [.int (nI kx2)]) (rest := []) (els := [.int (nI kx2)]) rfl rfl rfl rfl rfl rfl rfl rfl (by omega) ?_
      refine sp_m_isKm (by omega) (fun _ _ _ => ?_) (fun q => absurd rfl (q kx2 (by omega)))
      show am_wp L xs _ _ _ _ 12 [.ref 74, .int (nI kx1), .int (nI kx2)] [.int 1] (am_S b) (am_u (am_u h 6 kx1 ((nI kx2) / 10)) 7 kx1 (am_rem (nI kx2) 10)) _
      refine wp_if_t rfl (show ¬ (1 : Int32) = 0 from by decide) ?_
      refine wp_run 1 (pc' := 23) (ls' := [.ref 74, .int (nI kx1), .int (nI kx2)]) (st' := [.ref 74]) rfl ?_
      refine wp_getr 75 rfl rfl rfl ?_
      refine wp_run 9 (pc' := 37) (ls' := [.ref 74, .int (nI kx1), .int (nI kx2)]) (st' := [.int 10, .int (nI kx2), .int ((35 + (3 * (nI kx1))) + 1), .ref 75]) rfl ?_
      rw [show ((3 * (nI kx1)) : Int32) = (nI (3 * kx1)) from pk_mul 3 kx1]
      rw [show ((35 + (nI (3 * kx1))) : Int32) = (nI (35 + (3 * kx1))) from nI_add 35 (3 * kx1)]
      rw [show (((nI (35 + (3 * kx1))) + 1) : Int32) = (nI ((35 + (3 * kx1)) + 1)) from nI_add (35 + (3 * kx1)) 1]
      refine wp_irem rfl (by decide) ?_
      refine wp_ast rfl rfl rfl (by omega) rfl ?_
      refine wp_run 8 (pc' := 49) (ls' := [.ref 74, .int (nI kx1), .int (nI kx2)]) (st' := [.int 10, .int (nI kx2), .int (35 + (3 * (nI kx1))), .ref 74]) rfl ?_
      rw [show ((3 * (nI kx1)) : Int32) = (nI (3 * kx1)) from pk_mul 3 kx1]
      rw [show ((35 + (nI (3 * kx1))) : Int32) = (nI (35 + (3 * kx1))) from nI_add 35 (3 * kx1)]
      refine wp_idiv rfl (by decide) ?_
      refine wp_callV (o := 74) (as := [.int (nI (35 + (3 * kx1))), .int ((nI kx2) / 10)]) (rest := []) (els := [.ref 74, .int (nI (35 + (3 * kx1))), .int ((nI kx2) / 10), am_du]) rfl rfl rfl rfl rfl rfl rfl rfl (by omega) ?_
      refine sp_becomes (p := (35 + (3 * kx1))) (by omega) ?_
      rw [show (am_u (am_u (am_u h 6 kx1 ((nI kx2) / 10)) 7 kx1 (am_rem (nI kx2) 10)) 75 ((35 + (3 * kx1)) + 1) (am_rem (nI kx2) 10)) 75 (35 + (3 * kx1)) = (h 75 (35 + (3 * kx1))) from (show (upd (h 75) ((35 + (3 * kx1)) + 1) (am_rem (nI kx2) 10)) (35 + (3 * kx1)) = h 75 (35 + (3 * kx1)) from (if_neg (by omega)))]
      show am_wp L xs _ _ _ _ 53 [.ref 74, .int (nI kx1), .int (nI kx2)] [.int (h 75 (35 + (3 * kx1)))] (am_S b) (am_u (am_u (am_u (am_u h 6 kx1 ((nI kx2) / 10)) 7 kx1 (am_rem (nI kx2) 10)) 75 ((35 + (3 * kx1)) + 1) (am_rem (nI kx2) 10)) 75 (35 + (3 * kx1)) ((nI kx2) / 10)) _
      refine wp_ret rfl ?_
      rw [show ((h 75 (35 + (3 * kx1))) : Int32) = (h 6 kx1) from (H.2.2.2.2.2.1 kx1 (by omega)).1.symm]
      have Hn : re_house n c t tp wt s0 s1 p0 p1 (h 1) (h 2) (h 3) (h 4) (h 5) (upd (h 6) kx1 ((nI kx2) / 10)) (upd (h 7) kx1 (am_rem (nI kx2) 10)) (h 8) (h 9) (h 10) (h 11) (h 12) (h 14) (h 15) (h 16) (h 19) (h 20) (h 21) (upd (upd (h 75) ((35 + (3 * kx1)) + 1) (am_rem (nI kx2) 10)) (35 + (3 * kx1)) ((nI kx2) / 10)) := by
        refine ⟨?_, ?_, ?_, ?_, ?_, ?_, ?_, ?_, ?_, ?_, ?_, ?_⟩
        · exact ⟨(show (h 1) 10 = h 1 10 from rfl).trans H.1.1, (show (upd (upd (h 75) ((35 + (3 * kx1)) + 1) (am_rem (nI kx2) 10)) (35 + (3 * kx1)) ((nI kx2) / 10)) 2 = h 75 2 from ((if_neg (by omega)).trans (if_neg (by omega)))).trans H.1.2.1, H.1.2.2⟩
        · exact ⟨(show (h 1) 11 = h 1 11 from rfl).trans H.2.1.1, (show (upd (upd (h 75) ((35 + (3 * kx1)) + 1) (am_rem (nI kx2) 10)) (35 + (3 * kx1)) ((nI kx2) / 10)) 3 = h 75 3 from ((if_neg (by omega)).trans (if_neg (by omega)))).trans H.2.1.2.1, H.2.1.2.2⟩
        · exact ⟨(show (h 1) 12 = h 1 12 from rfl).trans H.2.2.1.1, (show (upd (upd (h 75) ((35 + (3 * kx1)) + 1) (am_rem (nI kx2) 10)) (35 + (3 * kx1)) ((nI kx2) / 10)) 0 = h 75 0 from ((if_neg (by omega)).trans (if_neg (by omega)))).trans H.2.2.1.2.1, H.2.2.1.2.2⟩
        · exact ⟨(show (h 1) 13 = h 1 13 from rfl).trans (H.2.2.2.1.1.trans (show (upd (upd (h 75) ((35 + (3 * kx1)) + 1) (am_rem (nI kx2) 10)) (35 + (3 * kx1)) ((nI kx2) / 10)) 4 = h 75 4 from ((if_neg (by omega)).trans (if_neg (by omega)))).symm), (show (h 1) 14 = h 1 14 from rfl).trans (H.2.2.2.1.2.trans (show (upd (upd (h 75) ((35 + (3 * kx1)) + 1) (am_rem (nI kx2) 10)) (35 + (3 * kx1)) ((nI kx2) / 10)) 1 = h 75 1 from ((if_neg (by omega)).trans (if_neg (by omega)))).symm)⟩
        · exact re_g5 (m2 := (upd (upd (h 75) ((35 + (3 * kx1)) + 1) (am_rem (nI kx2) 10)) (35 + (3 * kx1)) ((nI kx2) / 10))) H.2.2.2.2.1 (fun i h1 h2 => ((if_neg (by omega)).trans (if_neg (by omega))))
        · exact fun g hg => (Decidable.em (g = kx1)).elim (fun e => by rw [e]; exact ⟨(show (upd (h 6) kx1 ((nI kx2) / 10)) kx1 = ((nI kx2) / 10) from (if_pos (by omega))).trans (show (upd (upd (h 75) ((35 + (3 * kx1)) + 1) (am_rem (nI kx2) 10)) (35 + (3 * kx1)) ((nI kx2) / 10)) (35 + 3 * kx1) = ((nI kx2) / 10) from (if_pos (by omega))).symm, (show (upd (h 7) kx1 (am_rem (nI kx2) 10)) kx1 = (am_rem (nI kx2) 10) from (if_pos (by omega))).trans (show (upd (upd (h 75) ((35 + (3 * kx1)) + 1) (am_rem (nI kx2) 10)) (35 + (3 * kx1)) ((nI kx2) / 10)) (35 + 3 * kx1 + 1) = (am_rem (nI kx2) 10) from ((if_neg (by omega)).trans (if_pos (by omega)))).symm, (show (h 8) kx1 = h 8 kx1 from rfl).trans ((H.2.2.2.2.2.1 kx1 (by omega)).2.2.trans (show (upd (upd (h 75) ((35 + (3 * kx1)) + 1) (am_rem (nI kx2) 10)) (35 + (3 * kx1)) ((nI kx2) / 10)) (35 + 3 * kx1 + 2) = h 75 (35 + 3 * kx1 + 2) from ((if_neg (by omega)).trans (if_neg (by omega)))).symm)⟩) (fun e => ⟨(show (upd (h 6) kx1 ((nI kx2) / 10)) g = h 6 g from (if_neg (by omega))).trans ((H.2.2.2.2.2.1 g hg).1.trans (show (upd (upd (h 75) ((35 + (3 * kx1)) + 1) (am_rem (nI kx2) 10)) (35 + (3 * kx1)) ((nI kx2) / 10)) (35 + 3 * g) = h 75 (35 + 3 * g) from ((if_neg (by omega)).trans (if_neg (by omega)))).symm), (show (upd (h 7) kx1 (am_rem (nI kx2) 10)) g = h 7 g from (if_neg (by omega))).trans ((H.2.2.2.2.2.1 g hg).2.1.trans (show (upd (upd (h 75) ((35 + (3 * kx1)) + 1) (am_rem (nI kx2) 10)) (35 + (3 * kx1)) ((nI kx2) / 10)) (35 + 3 * g + 1) = h 75 (35 + 3 * g + 1) from ((if_neg (by omega)).trans (if_neg (by omega)))).symm), (show (h 8) g = h 8 g from rfl).trans ((H.2.2.2.2.2.1 g hg).2.2.trans (show (upd (upd (h 75) ((35 + (3 * kx1)) + 1) (am_rem (nI kx2) 10)) (35 + (3 * kx1)) ((nI kx2) / 10)) (35 + 3 * g + 2) = h 75 (35 + 3 * g + 2) from ((if_neg (by omega)).trans (if_neg (by omega)))).symm)⟩)
        · exact H.2.2.2.2.2.2.1
        · exact fun j hj => (Decidable.em (j = kx1)).elim (fun e => by obtain ⟨⟨a1, a2, a3⟩, ⟨a4, a5, a6⟩⟩ := pu_km kx2 (by omega); rw [e]; exact ⟨⟨a1, a2, (show (upd (h 6) kx1 ((nI kx2) / 10)) kx1 = ((nI kx2) / 10) from (if_pos (by omega))).trans a3⟩, ⟨a4, a5, (show (upd (h 7) kx1 (am_rem (nI kx2) 10)) kx1 = (am_rem (nI kx2) 10) from (if_pos (by omega))).trans a6⟩, (H.2.2.2.2.2.2.2.1 kx1 (by omega)).2.2⟩) (fun e => by obtain ⟨⟨a1, a2, a3⟩, ⟨a4, a5, a6⟩, q⟩ := H.2.2.2.2.2.2.2.1 j (by omega); exact ⟨⟨a1, a2, (show (upd (h 6) kx1 ((nI kx2) / 10)) j = h 6 j from (if_neg (by omega))).trans a3⟩, ⟨a4, a5, (show (upd (h 7) kx1 (am_rem (nI kx2) 10)) j = h 7 j from (if_neg (by omega))).trans a6⟩, q⟩)
        · exact ⟨(show (h 9) 1 = h 9 1 from rfl).trans H.2.2.2.2.2.2.2.2.1.1, (show (upd (upd (h 75) ((35 + (3 * kx1)) + 1) (am_rem (nI kx2) 10)) (35 + (3 * kx1)) ((nI kx2) / 10)) 5 = h 75 5 from ((if_neg (by omega)).trans (if_neg (by omega)))).trans H.2.2.2.2.2.2.2.2.1.2.1, H.2.2.2.2.2.2.2.2.1.2.2.1, re_g9 (m2 := (upd (upd (h 75) ((35 + (3 * kx1)) + 1) (am_rem (nI kx2) 10)) (35 + (3 * kx1)) ((nI kx2) / 10))) H.2.2.2.2.2.2.2.2.1.2.2.1 H.2.2.2.2.2.2.2.2.1.2.2.2 (fun i h1 h2 => ((if_neg (by omega)).trans (if_neg (by omega))))⟩
        · exact ⟨(show (h 11) 1 = h 11 1 from rfl).trans H.2.2.2.2.2.2.2.2.2.1.1, (show (upd (upd (h 75) ((35 + (3 * kx1)) + 1) (am_rem (nI kx2) 10)) (35 + (3 * kx1)) ((nI kx2) / 10)) 6 = h 75 6 from ((if_neg (by omega)).trans (if_neg (by omega)))).trans H.2.2.2.2.2.2.2.2.2.1.2.1, H.2.2.2.2.2.2.2.2.2.1.2.2.1, re_g10 (m2 := (upd (upd (h 75) ((35 + (3 * kx1)) + 1) (am_rem (nI kx2) 10)) (35 + (3 * kx1)) ((nI kx2) / 10))) H.2.2.2.2.2.2.2.2.2.1.2.2.1 H.2.2.2.2.2.2.2.2.2.1.2.2.2 (fun i h1 h2 => ((if_neg (by omega)).trans (if_neg (by omega))))⟩
        · exact re_law_m (m2 := (upd (upd (h 75) ((35 + (3 * kx1)) + 1) (am_rem (nI kx2) 10)) (35 + (3 * kx1)) ((nI kx2) / 10))) H.2.2.2.2.2.2.2.2.2.2.1 (fun i h1 h2 => ((if_neg (by omega)).trans (if_neg (by omega))))
        · exact re_law_m (m2 := (upd (upd (h 75) ((35 + (3 * kx1)) + 1) (am_rem (nI kx2) 10)) (35 + (3 * kx1)) ((nI kx2) / 10))) H.2.2.2.2.2.2.2.2.2.2.2 (fun i h1 h2 => ((if_neg (by omega)).trans (if_neg (by omega))))
      exact kk2 _ _ ⟨⟨n, c, t, tp, wt, s0, s1, p0, p1, Hn⟩, re_im_s hI, hE, hS0, hS1, hS2, hS3, hT⟩
    · skip
      intro hnx2
      show am_wp L xs _ _ _ _ 15 [.ref 0, .int (nI kx1), .int x2, am_du] [.int 0] (am_S b) h _
      refine wp_if_f rfl (show ¬ (¬ (0 : Int32) = 0) from by decide) ?_
      refine wp_run 2 (pc' := 20) (ls' := [.ref 0, .int (nI kx1), .int x2, am_du]) (st' := [.int 1, .ref 0]) rfl ?_
      refine wp_callV (o := 0) (as := [.int 1]) (rest := []) (els := [.ref 0, .int 1]) rfl rfl rfl rfl rfl rfl rfl rfl (by omega) ?_
      refine sp_refuse1 (by omega) ?_
      show am_wp L xs _ _ _ _ 23 [.ref 0, .int (nI kx1), .int x2, am_du] [.int (-1000000001)] (am_S b) (am_u h 73 1 (h 73 1 + 1)) _
      refine wp_ret rfl ?_
      refine kk _ _ _ (fun ms2 Q2 kk2 => ?_)
      refine wp_run 2 (pc' := 2) (ls' := [.ref 74, .int (nI kx1), .int x2]) (st' := [.int (nI kx1), .ref 74]) rfl ?_
      refine wp_callV (o := 74) (as := [.int (nI kx1)]) (rest := []) (els := [.ref 74, .int (nI kx1)]) rfl rfl rfl rfl rfl rfl rfl rfl (by omega) ?_
      refine sp_m_isCoat hm3 hc7 (by omega) (fun _ _ _ => ?_) (fun q => absurd rfl (q kx1 (by omega)))
      show am_wp L xs _ _ _ _ 5 [.ref 74, .int (nI kx1), .int x2] [.int 1] (am_S b) (am_u h 73 1 (h 73 1 + 1)) _
      refine wp_if_f rfl (show ¬ ((1 : Int32) = 0) from by decide) ?_
      refine wp_run 1 (pc' := 9) (ls' := [.ref 74, .int (nI kx1), .int x2]) (st' := [.int x2]) rfl ?_
      refine wp_callS (as := [.int x2]) (rest := []) (els := [.int x2]) rfl rfl rfl rfl rfl rfl rfl rfl (by omega) ?_
      refine sp_m_isKm (by omega) (fun k hk e => absurd e (hnx2 k hk)) (fun _ => ?_)
      show am_wp L xs _ _ _ _ 12 [.ref 74, .int (nI kx1), .int x2] [.int 0] (am_S b) (am_u h 73 1 (h 73 1 + 1)) _
      refine wp_if_f rfl (show ¬ (¬ (0 : Int32) = 0) from by decide) ?_
      refine wp_run 2 (pc' := 18) (ls' := [.ref 74, .int (nI kx1), .int x2]) (st' := [.int (-1000000001), .ref 74]) rfl ?_
      refine wp_callV (o := 74) (as := [.int (-1000000001)]) (rest := []) (els := [.ref 74, .int (-1000000001)]) rfl rfl rfl rfl rfl rfl rfl rfl (by omega) ?_
      refine sp_error1 ?_
      show am_wp L xs _ _ _ _ 21 [.ref 74, .int (nI kx1), .int x2] [.int (-1000000001)] (am_S b) (am_u (am_u h 73 1 (h 73 1 + 1)) 77 1 ((am_u h 73 1 (h 73 1 + 1)) 77 1 + 1)) _
      refine wp_ret rfl ?_
      exact kk2 _ _ (re_err1 hR)
  · skip
    intro hnx1
    show am_wp L xs _ _ _ _ 8 [.ref 0, .int x1, .int x2, am_du] [.int 0] (am_S b) h _
    refine wp_if_t rfl (show (0 : Int32) = 0 from by decide) ?_
    refine wp_run 2 (pc' := 20) (ls' := [.ref 0, .int x1, .int x2, am_du]) (st' := [.int 1, .ref 0]) rfl ?_
    refine wp_callV (o := 0) (as := [.int 1]) (rest := []) (els := [.ref 0, .int 1]) rfl rfl rfl rfl rfl rfl rfl rfl (by omega) ?_
    refine sp_refuse1 (by omega) ?_
    show am_wp L xs _ _ _ _ 23 [.ref 0, .int x1, .int x2, am_du] [.int (-1000000001)] (am_S b) (am_u h 73 1 (h 73 1 + 1)) _
    refine wp_ret rfl ?_
    refine kk _ _ _ (fun ms2 Q2 kk2 => ?_)
    refine wp_run 2 (pc' := 2) (ls' := [.ref 74, .int x1, .int x2]) (st' := [.int x1, .ref 74]) rfl ?_
    refine wp_callV (o := 74) (as := [.int x1]) (rest := []) (els := [.ref 74, .int x1]) rfl rfl rfl rfl rfl rfl rfl rfl (by omega) ?_
    refine sp_m_isCoat hm3 hc7 (by omega) (fun k hk e => absurd e (hnx1 k hk)) (fun _ => ?_)
    show am_wp L xs _ _ _ _ 5 [.ref 74, .int x1, .int x2] [.int 0] (am_S b) (am_u h 73 1 (h 73 1 + 1)) _
    refine wp_if_t rfl (show (0 : Int32) = 0 from by decide) ?_
    refine wp_run 2 (pc' := 18) (ls' := [.ref 74, .int x1, .int x2]) (st' := [.int (-1000000001), .ref 74]) rfl ?_
    refine wp_callV (o := 74) (as := [.int (-1000000001)]) (rest := []) (els := [.ref 74, .int (-1000000001)]) rfl rfl rfl rfl rfl rfl rfl rfl (by omega) ?_
    refine sp_error1 ?_
    show am_wp L xs _ _ _ _ 21 [.ref 74, .int x1, .int x2] [.int (-1000000001)] (am_S b) (am_u (am_u h 73 1 (h 73 1 + 1)) 77 1 ((am_u h 73 1 (h 73 1 + 1)) 77 1 + 1)) _
    refine wp_ret rfl ?_
    exact kk2 _ _ (re_err1 hR)
