/-! calls tied: move -/
theorem re_sh_m {s o : Nat} {oA oB rA rB b z c : Nat → Int32} {i j n : Nat} (hA : re_sh s oA rA b z c) (hB : re_sh o oB rB b z c) (h1 : i + n ≤ 24) (h2 : j + n ≤ 24) : re_sh o oB (va_cpy rA rB i j n) b z (mv_a c (24 * s + i) (24 * o + j) n) := by
  obtain ⟨l, q1, q2, q3, q4, q5, q6⟩ := hB
  obtain ⟨lA, -, -, -, -, -, qA⟩ := hA
  refine ⟨l, q1, q2, q3, q4, q5, fun k hk => ?_⟩
  unfold va_cpy mv_a
  by_cases e : j ≤ k ∧ k < j + n
  · rw [if_pos e, if_pos (by omega), qA _ (by omega)]
    congr 1
    omega
  · rw [if_neg e, if_neg (by omega)]
    exact q6 k hk
theorem re_sh_mo {t s o : Nat} {oT rT b z c : Nat → Int32} {i j n : Nat} (h : re_sh t oT rT b z c) (ht : t ≠ o) (h2 : j + n ≤ 24) : re_sh t oT rT b z (mv_a c (24 * s + i) (24 * o + j) n) := by
  obtain ⟨l, q1, q2, q3, q4, q5, q6⟩ := h
  refine ⟨l, q1, q2, q3, q4, q5, fun k hk => ?_⟩
  unfold mv_a
  rw [if_neg (by omega)]
  exact q6 k hk
theorem op_move {L : Nat} {xs : Nat → Int32} {d ms b N : Nat} {h : am_HI} {Q : am_Q} {x1 : Int32} {x2 : Int32} {x3 : Int32} {x4 : Int32} {x5 : Int32} (hd : 30 ≤ d) (hR : am_Rel N h) (hN : N < 100000)
    (kk : ∀ v b1 h1, (∀ ms2 Q2, (∀ b2 h2, am_Rel (N + 1) h2 → Q2 (some (.int v)) (am_S b2) h2) → am_wp L xs d 0 ms2 213 0 [.ref 74, .int x1, .int x2, .int x3, .int x4, .int x5, am_du, am_du, am_du] [] (am_S b1) h1 Q2) → Q (some (.int v)) (am_S b1) h1) :
    am_wp L xs d 0 ms 115 0 [.ref 0, .int x1, .int x2, .int x3, .int x4, .int x5, am_du, am_du] [] (am_S b) h Q := by
  obtain ⟨⟨n, c, t, tp, wt, s0, s1, p0, p1, H⟩, hI, hE, hS0, hS1, hS2, hS3, hT⟩ := id hR
  have hn := H.1.1
  have hm2 := H.1.2.1
  have hn7 := H.1.2.2
  have hc := H.2.1.1
  have hm3 := H.2.1.2.1
  have hc7 := H.2.1.2.2
  have ht := H.2.2.1.1
  have hm0 := H.2.2.1.2.1
  have ht9 := H.2.2.1.2.2
  have HS := re_hs H
  have HM := re_ms H
  refine wp_run 1 (pc' := 1) (ls' := [.ref 0, .int x1, .int x2, .int x3, .int x4, .int x5, am_du, am_du]) (st' := [.int x1]) rfl ?_
  refine wp_callS (as := [.int x1]) (rest := []) (els := [.int x1]) rfl rfl rfl rfl rfl rfl rfl rfl (by omega) ?_
  refine sp_x_isSheet (by omega) (pu_four ?_ ?_ ?_ ?_) ?_
  · skip
    intro ex1
    subst ex1
    show am_wp L xs _ _ _ _ 4 [.ref 0, .int 0, .int x2, .int x3, .int x4, .int x5, am_du, am_du] [.int 1] (am_S b) h _
    refine wp_if_f rfl (show ¬ ((1 : Int32) = 0) from by decide) ?_
    refine wp_run 1 (pc' := 8) (ls' := [.ref 0, .int 0, .int x2, .int x3, .int x4, .int x5, am_du, am_du]) (st' := [.int x3]) rfl ?_
    refine wp_callS (as := [.int x3]) (rest := []) (els := [.int x3]) rfl rfl rfl rfl rfl rfl rfl rfl (by omega) ?_
    refine sp_x_isSheet (by omega) (pu_four ?_ ?_ ?_ ?_) ?_
    · skip
      intro ex3
      subst ex3
      show am_wp L xs _ _ _ _ 11 [.ref 0, .int 0, .int x2, .int 0, .int x4, .int x5, am_du, am_du] [.int 1] (am_S b) h _
      refine wp_if_t rfl (show ¬ (1 : Int32) = 0 from by decide) ?_
      obtain ⟨l, hl24, ho2, hz2, hob, hbb, hri⟩ := id hS0
      refine wp_run 1 (pc' := 21) (ls' := [.ref 0, .int 0, .int x2, .int 0, .int x4, .int x5, am_du, am_du]) (st' := [.ref 0]) rfl ?_
      refine wp_getr 64 rfl rfl rfl ?_
      refine wp_run 1 (pc' := 25) (ls' := [.ref 0, .int 0, .int x2, .int 0, .int x4, .int x5, am_du, am_du]) (st' := [.int 0, .ref 64]) rfl ?_
      refine wp_aald (r := 65) rfl rfl (Or.inr rfl) rfl (by decide) rfl rfl ?_
      refine wp_run 2 (pc' := 29) (ls' := [.ref 0, .int 0, .int x2, .int 0, .int x4, .int x5, .ref 65, am_du]) (st' := [.ref 0]) rfl ?_
      refine wp_getr 64 rfl rfl rfl ?_
      refine wp_run 1 (pc' := 33) (ls' := [.ref 0, .int 0, .int x2, .int 0, .int x4, .int x5, .ref 65, am_du]) (st' := [.int 0, .ref 64]) rfl ?_
      refine wp_aald (r := 65) rfl rfl (Or.inr rfl) rfl (by decide) rfl rfl ?_
      refine wp_run 2 (pc' := 38) (ls' := [.ref 0, .int 0, .int x2, .int 0, .int x4, .int x5, .ref 65, .ref 65]) (st' := [.ref 65]) rfl ?_
      refine wp_callV (o := 65) (as := []) (rest := []) (els := [.ref 65]) rfl rfl rfl rfl rfl rfl rfl rfl (by omega) ?_
      refine wp_run 1 (pc' := 1) (ls' := [.ref 65]) (st' := [.ref 65]) rfl ?_
      refine wp_geti (a := 1) (h 65 1) rfl rfl rfl rfl ?_
      refine wp_if rfl (fun (cqz0 : ¬ (h 65 1) = 0) => ?_) (fun (cqz0 : ¬ (¬ (h 65 1) = 0)) => ?_)
      · skip
        refine wp_run 1 (pc' := 12) (ls' := [.ref 65]) (st' := [.int 0]) rfl ?_
        refine wp_retz rfl (Or.inl rfl) ?_
        show am_wp L xs _ _ _ _ 41 [.ref 0, .int 0, .int x2, .int 0, .int x4, .int x5, .ref 65, .ref 65] [.int 0] (am_S b) h _
        refine wp_if_f rfl (show ¬ (¬ (0 : Int32) = 0) from by decide) ?_
        refine wp_run 1 (pc' := 46) (ls' := [.ref 0, .int 0, .int x2, .int 0, .int x4, .int x5, .ref 65, .ref 65]) (st' := [.ref 65]) rfl ?_
        refine wp_callV (o := 65) (as := []) (rest := []) (els := [.ref 65]) rfl rfl rfl rfl rfl rfl rfl rfl (by omega) ?_
        refine wp_run 1 (pc' := 1) (ls' := [.ref 65]) (st' := [.ref 65]) rfl ?_
        refine wp_geti (a := 1) (h 65 1) rfl rfl rfl rfl ?_
        refine wp_if_t rfl (show ¬ (h 65 1) = 0 from cqz0) ?_
        refine wp_run 1 (pc' := 12) (ls' := [.ref 65]) (st' := [.int 0]) rfl ?_
        refine wp_retz rfl (Or.inl rfl) ?_
        show am_wp L xs _ _ _ _ 49 [.ref 0, .int 0, .int x2, .int 0, .int x4, .int x5, .ref 65, .ref 65] [.int 0] (am_S b) h _
        refine wp_if_t rfl (show (0 : Int32) = 0 from by decide) ?_
        refine wp_run 1 (pc' := 60) (ls' := [.ref 0, .int 0, .int x2, .int 0, .int x4, .int x5, .ref 65, .ref 65]) (st' := [.ref 65]) rfl ?_
        refine wp_geti (a := 1) (h 65 1) rfl rfl rfl rfl ?_
        refine wp_run 1 (pc' := 65) (ls' := [.ref 0, .int 0, .int x2, .int 0, .int x4, .int x5, .ref 65, .ref 65]) (st' := [.ref 65, .int (h 65 1)]) rfl ?_
        refine wp_geti (a := 1) (h 65 1) rfl rfl rfl rfl ?_
        refine wp_icmp_t rfl (show (h 65 1) = (h 65 1) from rfl) ?_
        refine wp_run 3 (pc' := 82) (ls' := [.ref 0, .int 0, .int x2, .int 0, .int x4, .int x5, .ref 65, .ref 65]) (st' := [.int x5, .int x2, .ref 65]) rfl ?_
        refine wp_callV (o := 65) (as := [.int x2, .int x5]) (rest := []) (els := [.ref 65, .int x2, .int x5]) rfl rfl rfl rfl rfl rfl rfl rfl (by omega) ?_
        refine sp_holds (h := h) (o := 65) (l := l) rfl ho2 hl24 (by omega) ?_ ?_
        · skip
          intro k2 k5 e5 e2 hle1
          subst e5
          subst e2
          show am_wp L xs _ _ _ _ 85 [.ref 0, .int 0, .int (nI k2), .int 0, .int x4, .int (nI k5), .ref 65, .ref 65] [.int 1] (am_S b) h _
          refine wp_if_f rfl (show ¬ ((1 : Int32) = 0) from by decide) ?_
          refine wp_run 3 (pc' := 94) (ls' := [.ref 0, .int 0, .int (nI k2), .int 0, .int x4, .int (nI k5), .ref 65, .ref 65]) (st' := [.int (nI k5), .int x4, .ref 65]) rfl ?_
          refine wp_callV (o := 65) (as := [.int x4, .int (nI k5)]) (rest := []) (els := [.ref 65, .int x4, .int (nI k5)]) rfl rfl rfl rfl rfl rfl rfl rfl (by omega) ?_
          refine sp_holds (h := h) (o := 65) (l := l) rfl ho2 hl24 (by omega) ?_ ?_
          · skip
            intro k4 n4 q1 e4 hle2
            have en := pu_inj (by omega) (by omega) q1
            subst en
            subst e4
            show am_wp L xs _ _ _ _ 97 [.ref 0, .int 0, .int (nI k2), .int 0, .int (nI k4), .int (nI k5), .ref 65, .ref 65] [.int 1] (am_S b) h _
            refine wp_if_t rfl (show ¬ (1 : Int32) = 0 from by decide) ?_
            refine wp_run 1 (pc' := 108) (ls' := [.ref 0, .int 0, .int (nI k2), .int 0, .int (nI k4), .int (nI k5), .ref 65, .ref 65]) (st' := [.ref 65]) rfl ?_
            refine wp_getr 66 rfl rfl rfl ?_
            refine wp_run 2 (pc' := 114) (ls' := [.ref 0, .int 0, .int (nI k2), .int 0, .int (nI k4), .int (nI k5), .ref 65, .ref 65]) (st' := [.ref 65, .int (nI k2), .ref 66]) rfl ?_
            refine wp_getr 66 rfl rfl rfl ?_
            refine wp_run 2 (pc' := 121) (ls' := [.ref 0, .int 0, .int (nI k2), .int 0, .int (nI k4), .int (nI k5), .ref 65, .ref 65]) (st' := [.int (nI k5), .int (nI k4), .ref 66, .int (nI k2), .ref 66]) rfl ?_
            refine wp_copy (q := 66) (o := 66) (sp := k2) (dp := k4) (n := k5) rfl rfl rfl rfl rfl rfl (by omega) (by omega) (by omega) (by omega) rfl (by omega) ?_
            refine wp_run 1 (pc' := 126) (ls' := [.ref 0, .int 0, .int (nI k2), .int 0, .int (nI k4), .int (nI k5), .ref 65, .ref 65]) (st' := [.int (nI k5)]) rfl ?_
            refine wp_ret rfl ?_
            refine kk _ _ _ (fun ms2 Q2 kk2 => ?_)
            refine wp_run 6 (pc' := 8) (ls' := [.ref 74, .int 0, .int (nI k2), .int 0, .int (nI k4), .int (nI k5), am_du, am_du, am_du]) (st' := [.int (nI k5), .int (nI k4), .int 0, .int (nI k2), .int 0, .ref 74]) rfl ?_
            refine wp_callV (o := 74) (as := [.int 0, .int (nI k2), .int 0, .int (nI k4), .int (nI k5)]) (rest := []) (els := [.ref 74, .int 0, .int (nI k2), .int 0, .int (nI k4), .int (nI k5), am_du]) rfl rfl rfl rfl rfl rfl rfl rfl (by omega) ?_
            refine wp_run 1 (pc' := 1) (ls' := [.ref 74, .int 0, .int (nI k2), .int 0, .int (nI k4), .int (nI k5), am_du]) (st' := [.int 0]) rfl ?_
            refine wp_callS (as := [.int 0]) (rest := []) (els := [.int 0]) rfl rfl rfl rfl rfl rfl rfl rfl (by omega) ?_
            refine sp_m_isSheet (by omega) (fun _ _ _ => ?_) (fun q => absurd rfl (q 0 (by omega)))
            show am_wp L xs _ _ _ _ 4 [.ref 74, .int 0, .int (nI k2), .int 0, .int (nI k4), .int (nI k5), am_du] [.int 1] (am_S b) (am_ur h 66 (va_cpy (h 66) (h 66) k2 k4 k5)) _
            refine wp_if_f rfl (show ¬ ((1 : Int32) = 0) from by decide) ?_
            refine wp_run 1 (pc' := 8) (ls' := [.ref 74, .int 0, .int (nI k2), .int 0, .int (nI k4), .int (nI k5), am_du]) (st' := [.int 0]) rfl ?_
            refine wp_callS (as := [.int 0]) (rest := []) (els := [.int 0]) rfl rfl rfl rfl rfl rfl rfl rfl (by omega) ?_
            refine sp_m_isSheet (by omega) (fun _ _ _ => ?_) (fun q => absurd rfl (q 0 (by omega)))
            show am_wp L xs _ _ _ _ 11 [.ref 74, .int 0, .int (nI k2), .int 0, .int (nI k4), .int (nI k5), am_du] [.int 1] (am_S b) (am_ur h 66 (va_cpy (h 66) (h 66) k2 k4 k5)) _
            refine wp_if_t rfl (show ¬ (1 : Int32) = 0 from by decide) ?_
            refine wp_run 1 (pc' := 18) (ls' := [.ref 74, .int 0, .int (nI k2), .int 0, .int (nI k4), .int (nI k5), am_du]) (st' := [.ref 74]) rfl ?_
            refine wp_getr 78 rfl rfl rfl ?_
            refine wp_run 1 (pc' := 22) (ls' := [.ref 74, .int 0, .int (nI k2), .int 0, .int (nI k4), .int (nI k5), am_du]) (st' := [.int 0, .ref 78]) rfl ?_
            refine wp_ald (i := 0) (h 78 0) rfl rfl rfl rfl (by decide) rfl ?_
            refine wp_if_f rfl (show ¬ ((h 78 0) = 0) from (fun q => cqz0 (hob.trans q))) ?_
            refine wp_run 1 (pc' := 27) (ls' := [.ref 74, .int 0, .int (nI k2), .int 0, .int (nI k4), .int (nI k5), am_du]) (st' := [.ref 74]) rfl ?_
            refine wp_getr 78 rfl rfl rfl ?_
            refine wp_run 1 (pc' := 31) (ls' := [.ref 74, .int 0, .int (nI k2), .int 0, .int (nI k4), .int (nI k5), am_du]) (st' := [.int 0, .ref 78]) rfl ?_
            refine wp_ald (i := 0) (h 78 0) rfl rfl rfl rfl (by decide) rfl ?_
            refine wp_if_t rfl (show ¬ (h 78 0) = 0 from (fun q => cqz0 (hob.trans q))) ?_
            refine wp_run 1 (pc' := 39) (ls' := [.ref 74, .int 0, .int (nI k2), .int 0, .int (nI k4), .int (nI k5), am_du]) (st' := [.ref 74]) rfl ?_
            refine wp_getr 78 rfl rfl rfl ?_
            refine wp_run 1 (pc' := 43) (ls' := [.ref 74, .int 0, .int (nI k2), .int 0, .int (nI k4), .int (nI k5), am_du]) (st' := [.int 0, .ref 78]) rfl ?_
            refine wp_ald (i := 0) (h 78 0) rfl rfl rfl rfl (by decide) rfl ?_
            refine wp_run 1 (pc' := 45) (ls' := [.ref 74, .int 0, .int (nI k2), .int 0, .int (nI k4), .int (nI k5), am_du]) (st' := [.ref 74, .int (h 78 0)]) rfl ?_
            refine wp_getr 78 rfl rfl rfl ?_
            refine wp_run 1 (pc' := 49) (ls' := [.ref 74, .int 0, .int (nI k2), .int 0, .int (nI k4), .int (nI k5), am_du]) (st' := [.int 0, .ref 78, .int (h 78 0)]) rfl ?_
            refine wp_ald (i := 0) (h 78 0) rfl rfl rfl rfl (by decide) rfl ?_
            refine wp_icmp_t rfl (show (h 78 0) = (h 78 0) from rfl) ?_
            refine wp_run 1 (pc' := 58) (ls' := [.ref 74, .int 0, .int (nI k2), .int 0, .int (nI k4), .int (nI k5), am_du]) (st' := [.int (nI k5)]) rfl ?_
            refine wp_if_f rfl (show ¬ ((nI k5) < 0) from mt (nI_ltI (a := k5) (b := 0) (by omega) (by omega)).mp (by omega)) ?_
            refine wp_run 1 (pc' := 62) (ls' := [.ref 74, .int 0, .int (nI k2), .int 0, .int (nI k4), .int (nI k5), am_du]) (st' := [.int (nI k2)]) rfl ?_
            refine wp_if_f rfl (show ¬ ((nI k2) < 0) from mt (nI_ltI (a := k2) (b := 0) (by omega) (by omega)).mp (by omega)) ?_
            refine wp_run 1 (pc' := 67) (ls' := [.ref 74, .int 0, .int (nI k2), .int 0, .int (nI k4), .int (nI k5), am_du]) (st' := [.int (nI k4)]) rfl ?_
            refine wp_if_f rfl (show ¬ ((nI k4) < 0) from mt (nI_ltI (a := k4) (b := 0) (by omega) (by omega)).mp (by omega)) ?_
            refine wp_run 2 (pc' := 73) (ls' := [.ref 74, .int 0, .int (nI k2), .int 0, .int (nI k4), .int (nI k5), am_du]) (st' := [.ref 74, .int (nI k5)]) rfl ?_
            refine wp_getr 79 rfl rfl rfl ?_
            refine wp_run 1 (pc' := 77) (ls' := [.ref 74, .int 0, .int (nI k2), .int 0, .int (nI k4), .int (nI k5), am_du]) (st' := [.int 0, .ref 79, .int (nI k5)]) rfl ?_
            refine wp_ald (i := 0) (nI l) hz2 rfl rfl rfl (by decide) rfl ?_
            refine wp_run 2 (pc' := 80) (ls' := [.ref 74, .int 0, .int (nI k2), .int 0, .int (nI k4), .int (nI k5), am_du]) (st' := [.int ((nI l) - (nI k2)), .int (nI k5)]) rfl ?_
            refine wp_icmp_f rfl (show ¬ (((nI l) - (nI k2)) < (nI k5)) from Int32.not_lt.mpr ((pu_suble (by omega) (by omega) hl24).mpr (by omega))) ?_
            refine wp_run 2 (pc' := 86) (ls' := [.ref 74, .int 0, .int (nI k2), .int 0, .int (nI k4), .int (nI k5), am_du]) (st' := [.ref 74, .int (nI k5)]) rfl ?_
            refine wp_getr 79 rfl rfl rfl ?_
            refine wp_run 1 (pc' := 90) (ls' := [.ref 74, .int 0, .int (nI k2), .int 0, .int (nI k4), .int (nI k5), am_du]) (st' := [.int 0, .ref 79, .int (nI k5)]) rfl ?_
            refine wp_ald (i := 0) (nI l) hz2 rfl rfl rfl (by decide) rfl ?_
            refine wp_run 2 (pc' := 94) (ls' := [.ref 74, .int 0, .int (nI k2), .int 0, .int (nI k4), .int (nI k5), am_du]) (st' := [.int ((nI l) - (nI k4)), .int (nI k5)]) rfl ?_
            refine wp_icmp_f rfl (show ¬ (((nI l) - (nI k4)) < (nI k5)) from Int32.not_lt.mpr ((pu_suble (by omega) (by omega) hl24).mpr (by omega))) ?_
            refine wp_run 4 (pc' := 106) (ls' := [.ref 74, .int 0, .int (nI k2), .int 0, .int (nI k4), .int (nI k5), .int 1]) (st' := [.int 1]) rfl ?_
            refine wp_if_f rfl (show ¬ ((1 : Int32) = 0) from by decide) ?_
            refine wp_run 2 (pc' := 115) (ls' := [.ref 74, .int 0, .int (nI k2), .int 0, .int (nI k4), .int (nI k5), .int 1]) (st' := [.int 0]) rfl ?_
            refine wp_ret rfl ?_
            show am_wp L xs _ _ _ _ 11 [.ref 74, .int 0, .int (nI k2), .int 0, .int (nI k4), .int (nI k5), am_du, am_du, am_du] [.int 0] (am_S b) (am_ur h 66 (va_cpy (h 66) (h 66) k2 k4 k5)) _
            refine wp_run 2 (pc' := 15) (ls' := [.ref 74, .int 0, .int (nI k2), .int 0, .int (nI k4), .int (nI k5), .int 0, am_du, am_du]) (st' := [.int 0]) rfl ?_
            refine wp_if_t rfl (show (0 : Int32) = 0 from by decide) ?_
            refine wp_run 2 (pc' := 28) (ls' := [.ref 74, .int 0, .int (nI k2), .int 0, .int (nI k4), .int (nI k5), .int 0, .int 0, am_du]) (st' := []) rfl ?_
            by_cases hij : k2 < k4
            · have hp := lp_mvd (L := L) (xs := xs) (d := d) (ms := ms2) (b := b) (h := (am_ur h 66 (va_cpy (h 66) (h 66) k2 k4 k5))) (Q := Q2) (s := 0) (o := 0) (i := k2) (j := k4) (n := k5) (by omega) (by omega) (by omega) (by omega) hij (by omega) ?_ k5 0 am_du (by omega)
              · rw [mv_d0] at hp; exact hp
              · exact kk2 _ _ ⟨⟨n, c, t, tp, wt, s0, s1, p0, p1, H⟩, re_im_s hI, hE, (re_sh_m hS0 hS0 (by omega) (by omega)), (re_sh_mo hS1 (by decide) (by omega)), (re_sh_mo hS2 (by decide) (by omega)), (re_sh_mo hS3 (by decide) (by omega)), hT⟩
            · have hp := lp_mva (L := L) (xs := xs) (d := d) (ms := ms2) (b := b) (h := (am_ur h 66 (va_cpy (h 66) (h 66) k2 k4 k5))) (Q := Q2) (s := 0) (o := 0) (i := k2) (j := k4) (n := k5) (by omega) (by omega) (by omega) (by omega) hij (by omega) ?_ k5 0 am_du (by omega)
              · rw [mv_a0] at hp; exact hp
              · exact kk2 _ _ ⟨⟨n, c, t, tp, wt, s0, s1, p0, p1, H⟩, re_im_s hI, hE, (re_sh_m hS0 hS0 (by omega) (by omega)), (re_sh_mo hS1 (by decide) (by omega)), (re_sh_mo hS2 (by decide) (by omega)), (re_sh_mo hS3 (by decide) (by omega)), hT⟩
          · skip
            intro hno2
            show am_wp L xs _ _ _ _ 97 [.ref 0, .int 0, .int (nI k2), .int 0, .int x4, .int (nI k5), .ref 65, .ref 65] [.int 0] (am_S b) h _
            refine wp_if_f rfl (show ¬ (¬ (0 : Int32) = 0) from by decide) ?_
            refine wp_run 2 (pc' := 102) (ls' := [.ref 0, .int 0, .int (nI k2), .int 0, .int x4, .int (nI k5), .ref 65, .ref 65]) (st' := [.int 1, .ref 0]) rfl ?_
            refine wp_callV (o := 0) (as := [.int 1]) (rest := []) (els := [.ref 0, .int 1]) rfl rfl rfl rfl rfl rfl rfl rfl (by omega) ?_
            refine sp_refuse1 (by omega) ?_
            show am_wp L xs _ _ _ _ 105 [.ref 0, .int 0, .int (nI k2), .int 0, .int x4, .int (nI k5), .ref 65, .ref 65] [.int (-1000000001)] (am_S b) (am_u h 73 1 (h 73 1 + 1)) _
            refine wp_ret rfl ?_
            refine kk _ _ _ (fun ms2 Q2 kk2 => ?_)
            refine wp_run 6 (pc' := 8) (ls' := [.ref 74, .int 0, .int (nI k2), .int 0, .int x4, .int (nI k5), am_du, am_du, am_du]) (st' := [.int (nI k5), .int x4, .int 0, .int (nI k2), .int 0, .ref 74]) rfl ?_
            refine wp_callV (o := 74) (as := [.int 0, .int (nI k2), .int 0, .int x4, .int (nI k5)]) (rest := []) (els := [.ref 74, .int 0, .int (nI k2), .int 0, .int x4, .int (nI k5), am_du]) rfl rfl rfl rfl rfl rfl rfl rfl (by omega) ?_
            refine wp_run 1 (pc' := 1) (ls' := [.ref 74, .int 0, .int (nI k2), .int 0, .int x4, .int (nI k5), am_du]) (st' := [.int 0]) rfl ?_
            refine wp_callS (as := [.int 0]) (rest := []) (els := [.int 0]) rfl rfl rfl rfl rfl rfl rfl rfl (by omega) ?_
            refine sp_m_isSheet (by omega) (fun _ _ _ => ?_) (fun q => absurd rfl (q 0 (by omega)))
            show am_wp L xs _ _ _ _ 4 [.ref 74, .int 0, .int (nI k2), .int 0, .int x4, .int (nI k5), am_du] [.int 1] (am_S b) (am_u h 73 1 (h 73 1 + 1)) _
            refine wp_if_f rfl (show ¬ ((1 : Int32) = 0) from by decide) ?_
            refine wp_run 1 (pc' := 8) (ls' := [.ref 74, .int 0, .int (nI k2), .int 0, .int x4, .int (nI k5), am_du]) (st' := [.int 0]) rfl ?_
            refine wp_callS (as := [.int 0]) (rest := []) (els := [.int 0]) rfl rfl rfl rfl rfl rfl rfl rfl (by omega) ?_
            refine sp_m_isSheet (by omega) (fun _ _ _ => ?_) (fun q => absurd rfl (q 0 (by omega)))
            show am_wp L xs _ _ _ _ 11 [.ref 74, .int 0, .int (nI k2), .int 0, .int x4, .int (nI k5), am_du] [.int 1] (am_S b) (am_u h 73 1 (h 73 1 + 1)) _
            refine wp_if_t rfl (show ¬ (1 : Int32) = 0 from by decide) ?_
            refine wp_run 1 (pc' := 18) (ls' := [.ref 74, .int 0, .int (nI k2), .int 0, .int x4, .int (nI k5), am_du]) (st' := [.ref 74]) rfl ?_
            refine wp_getr 78 rfl rfl rfl ?_
            refine wp_run 1 (pc' := 22) (ls' := [.ref 74, .int 0, .int (nI k2), .int 0, .int x4, .int (nI k5), am_du]) (st' := [.int 0, .ref 78]) rfl ?_
            refine wp_ald (i := 0) (h 78 0) rfl rfl rfl rfl (by decide) rfl ?_
            refine wp_if_f rfl (show ¬ ((h 78 0) = 0) from (fun q => cqz0 (hob.trans q))) ?_
            refine wp_run 1 (pc' := 27) (ls' := [.ref 74, .int 0, .int (nI k2), .int 0, .int x4, .int (nI k5), am_du]) (st' := [.ref 74]) rfl ?_
            refine wp_getr 78 rfl rfl rfl ?_
            refine wp_run 1 (pc' := 31) (ls' := [.ref 74, .int 0, .int (nI k2), .int 0, .int x4, .int (nI k5), am_du]) (st' := [.int 0, .ref 78]) rfl ?_
            refine wp_ald (i := 0) (h 78 0) rfl rfl rfl rfl (by decide) rfl ?_
            refine wp_if_t rfl (show ¬ (h 78 0) = 0 from (fun q => cqz0 (hob.trans q))) ?_
            refine wp_run 1 (pc' := 39) (ls' := [.ref 74, .int 0, .int (nI k2), .int 0, .int x4, .int (nI k5), am_du]) (st' := [.ref 74]) rfl ?_
            refine wp_getr 78 rfl rfl rfl ?_
            refine wp_run 1 (pc' := 43) (ls' := [.ref 74, .int 0, .int (nI k2), .int 0, .int x4, .int (nI k5), am_du]) (st' := [.int 0, .ref 78]) rfl ?_
            refine wp_ald (i := 0) (h 78 0) rfl rfl rfl rfl (by decide) rfl ?_
            refine wp_run 1 (pc' := 45) (ls' := [.ref 74, .int 0, .int (nI k2), .int 0, .int x4, .int (nI k5), am_du]) (st' := [.ref 74, .int (h 78 0)]) rfl ?_
            refine wp_getr 78 rfl rfl rfl ?_
            refine wp_run 1 (pc' := 49) (ls' := [.ref 74, .int 0, .int (nI k2), .int 0, .int x4, .int (nI k5), am_du]) (st' := [.int 0, .ref 78, .int (h 78 0)]) rfl ?_
            refine wp_ald (i := 0) (h 78 0) rfl rfl rfl rfl (by decide) rfl ?_
            refine wp_icmp_t rfl (show (h 78 0) = (h 78 0) from rfl) ?_
            refine wp_run 1 (pc' := 58) (ls' := [.ref 74, .int 0, .int (nI k2), .int 0, .int x4, .int (nI k5), am_du]) (st' := [.int (nI k5)]) rfl ?_
            refine wp_if_f rfl (show ¬ ((nI k5) < 0) from mt (nI_ltI (a := k5) (b := 0) (by omega) (by omega)).mp (by omega)) ?_
            refine wp_run 1 (pc' := 62) (ls' := [.ref 74, .int 0, .int (nI k2), .int 0, .int x4, .int (nI k5), am_du]) (st' := [.int (nI k2)]) rfl ?_
            refine wp_if_f rfl (show ¬ ((nI k2) < 0) from mt (nI_ltI (a := k2) (b := 0) (by omega) (by omega)).mp (by omega)) ?_
            refine wp_run 1 (pc' := 67) (ls' := [.ref 74, .int 0, .int (nI k2), .int 0, .int x4, .int (nI k5), am_du]) (st' := [.int x4]) rfl ?_
            refine wp_if rfl (fun (cq67 : x4 < 0) => ?_) (fun (cq67 : ¬ (x4 < 0)) => ?_)
            · skip
              refine wp_run 3 (pc' := 106) (ls' := [.ref 74, .int 0, .int (nI k2), .int 0, .int x4, .int (nI k5), .int 0]) (st' := [.int 0]) rfl ?_
              refine wp_if_t rfl (show (0 : Int32) = 0 from by decide) ?_
              refine wp_run 1 (pc' := 115) (ls' := [.ref 74, .int 0, .int (nI k2), .int 0, .int x4, .int (nI k5), .int 0]) (st' := [.int (-1000000001)]) rfl ?_
              refine wp_ret rfl ?_
              show am_wp L xs _ _ _ _ 11 [.ref 74, .int 0, .int (nI k2), .int 0, .int x4, .int (nI k5), am_du, am_du, am_du] [.int (-1000000001)] (am_S b) (am_u h 73 1 (h 73 1 + 1)) _
              refine wp_run 2 (pc' := 15) (ls' := [.ref 74, .int 0, .int (nI k2), .int 0, .int x4, .int (nI k5), .int (-1000000001), am_du, am_du]) (st' := [.int (-1000000001)]) rfl ?_
              refine wp_if_f rfl (show ¬ (((-1000000001) : Int32) = 0) from by decide) ?_
              refine wp_run 2 (pc' := 21) (ls' := [.ref 74, .int 0, .int (nI k2), .int 0, .int x4, .int (nI k5), .int (-1000000001), am_du, am_du]) (st' := [.int (-1000000001), .ref 74]) rfl ?_
              refine wp_callV (o := 74) (as := [.int (-1000000001)]) (rest := []) (els := [.ref 74, .int (-1000000001)]) rfl rfl rfl rfl rfl rfl rfl rfl (by omega) ?_
              refine sp_error1 ?_
              show am_wp L xs _ _ _ _ 24 [.ref 74, .int 0, .int (nI k2), .int 0, .int x4, .int (nI k5), .int (-1000000001), am_du, am_du] [.int (-1000000001)] (am_S b) (am_u (am_u h 73 1 (h 73 1 + 1)) 77 1 ((am_u h 73 1 (h 73 1 + 1)) 77 1 + 1)) _
              refine wp_ret rfl ?_
              exact kk2 _ _ (re_err1 hR)
            · skip
              obtain ⟨k4, hk4, ek4⟩ := pu_nonneg (Int32.not_lt.mp cq67)
              subst ek4
              refine wp_run 2 (pc' := 73) (ls' := [.ref 74, .int 0, .int (nI k2), .int 0, .int (nI k4), .int (nI k5), am_du]) (st' := [.ref 74, .int (nI k5)]) rfl ?_
              refine wp_getr 79 rfl rfl rfl ?_
              refine wp_run 1 (pc' := 77) (ls' := [.ref 74, .int 0, .int (nI k2), .int 0, .int (nI k4), .int (nI k5), am_du]) (st' := [.int 0, .ref 79, .int (nI k5)]) rfl ?_
              refine wp_ald (i := 0) (nI l) hz2 rfl rfl rfl (by decide) rfl ?_
              refine wp_run 2 (pc' := 80) (ls' := [.ref 74, .int 0, .int (nI k2), .int 0, .int (nI k4), .int (nI k5), am_du]) (st' := [.int ((nI l) - (nI k2)), .int (nI k5)]) rfl ?_
              refine wp_icmp_f rfl (show ¬ (((nI l) - (nI k2)) < (nI k5)) from Int32.not_lt.mpr ((pu_suble (by omega) (by omega) hl24).mpr (by omega))) ?_
              refine wp_run 2 (pc' := 86) (ls' := [.ref 74, .int 0, .int (nI k2), .int 0, .int (nI k4), .int (nI k5), am_du]) (st' := [.ref 74, .int (nI k5)]) rfl ?_
              refine wp_getr 79 rfl rfl rfl ?_
              refine wp_run 1 (pc' := 90) (ls' := [.ref 74, .int 0, .int (nI k2), .int 0, .int (nI k4), .int (nI k5), am_du]) (st' := [.int 0, .ref 79, .int (nI k5)]) rfl ?_
              refine wp_ald (i := 0) (nI l) hz2 rfl rfl rfl (by decide) rfl ?_
              refine wp_run 2 (pc' := 94) (ls' := [.ref 74, .int 0, .int (nI k2), .int 0, .int (nI k4), .int (nI k5), am_du]) (st' := [.int ((nI l) - (nI k4)), .int (nI k5)]) rfl ?_
              refine wp_icmp_t rfl (show ((nI l) - (nI k4)) < (nI k5) from Int32.not_le.mp (fun q => hno2 k4 k5 rfl rfl (by have := (pu_suble (by omega) (by omega) hl24).mp q; omega))) ?_
              refine wp_run 3 (pc' := 106) (ls' := [.ref 74, .int 0, .int (nI k2), .int 0, .int (nI k4), .int (nI k5), .int 0]) (st' := [.int 0]) rfl ?_
              refine wp_if_t rfl (show (0 : Int32) = 0 from by decide) ?_
              refine wp_run 1 (pc' := 115) (ls' := [.ref 74, .int 0, .int (nI k2), .int 0, .int (nI k4), .int (nI k5), .int 0]) (st' := [.int (-1000000001)]) rfl ?_
              refine wp_ret rfl ?_
              show am_wp L xs _ _ _ _ 11 [.ref 74, .int 0, .int (nI k2), .int 0, .int (nI k4), .int (nI k5), am_du, am_du, am_du] [.int (-1000000001)] (am_S b) (am_u h 73 1 (h 73 1 + 1)) _
              refine wp_run 2 (pc' := 15) (ls' := [.ref 74, .int 0, .int (nI k2), .int 0, .int (nI k4), .int (nI k5), .int (-1000000001), am_du, am_du]) (st' := [.int (-1000000001)]) rfl ?_
              refine wp_if_f rfl (show ¬ (((-1000000001) : Int32) = 0) from by decide) ?_
              refine wp_run 2 (pc' := 21) (ls' := [.ref 74, .int 0, .int (nI k2), .int 0, .int (nI k4), .int (nI k5), .int (-1000000001), am_du, am_du]) (st' := [.int (-1000000001), .ref 74]) rfl ?_
              refine wp_callV (o := 74) (as := [.int (-1000000001)]) (rest := []) (els := [.ref 74, .int (-1000000001)]) rfl rfl rfl rfl rfl rfl rfl rfl (by omega) ?_
              refine sp_error1 ?_
              show am_wp L xs _ _ _ _ 24 [.ref 74, .int 0, .int (nI k2), .int 0, .int (nI k4), .int (nI k5), .int (-1000000001), am_du, am_du] [.int (-1000000001)] (am_S b) (am_u (am_u h 73 1 (h 73 1 + 1)) 77 1 ((am_u h 73 1 (h 73 1 + 1)) 77 1 + 1)) _
              refine wp_ret rfl ?_
              exact kk2 _ _ (re_err1 hR)
        · skip
          intro hno1
          show am_wp L xs _ _ _ _ 85 [.ref 0, .int 0, .int x2, .int 0, .int x4, .int x5, .ref 65, .ref 65] [.int 0] (am_S b) h _
          refine wp_if_t rfl (show (0 : Int32) = 0 from by decide) ?_
          refine wp_run 2 (pc' := 102) (ls' := [.ref 0, .int 0, .int x2, .int 0, .int x4, .int x5, .ref 65, .ref 65]) (st' := [.int 1, .ref 0]) rfl ?_
          refine wp_callV (o := 0) (as := [.int 1]) (rest := []) (els := [.ref 0, .int 1]) rfl rfl rfl rfl rfl rfl rfl rfl (by omega) ?_
          refine sp_refuse1 (by omega) ?_
          show am_wp L xs _ _ _ _ 105 [.ref 0, .int 0, .int x2, .int 0, .int x4, .int x5, .ref 65, .ref 65] [.int (-1000000001)] (am_S b) (am_u h 73 1 (h 73 1 + 1)) _
          refine wp_ret rfl ?_
          refine kk _ _ _ (fun ms2 Q2 kk2 => ?_)
          refine wp_run 6 (pc' := 8) (ls' := [.ref 74, .int 0, .int x2, .int 0, .int x4, .int x5, am_du, am_du, am_du]) (st' := [.int x5, .int x4, .int 0, .int x2, .int 0, .ref 74]) rfl ?_
          refine wp_callV (o := 74) (as := [.int 0, .int x2, .int 0, .int x4, .int x5]) (rest := []) (els := [.ref 74, .int 0, .int x2, .int 0, .int x4, .int x5, am_du]) rfl rfl rfl rfl rfl rfl rfl rfl (by omega) ?_
          refine wp_run 1 (pc' := 1) (ls' := [.ref 74, .int 0, .int x2, .int 0, .int x4, .int x5, am_du]) (st' := [.int 0]) rfl ?_
          refine wp_callS (as := [.int 0]) (rest := []) (els := [.int 0]) rfl rfl rfl rfl rfl rfl rfl rfl (by omega) ?_
          refine sp_m_isSheet (by omega) (fun _ _ _ => ?_) (fun q => absurd rfl (q 0 (by omega)))
          show am_wp L xs _ _ _ _ 4 [.ref 74, .int 0, .int x2, .int 0, .int x4, .int x5, am_du] [.int 1] (am_S b) (am_u h 73 1 (h 73 1 + 1)) _
          refine wp_if_f rfl (show ¬ ((1 : Int32) = 0) from by decide) ?_
          refine wp_run 1 (pc' := 8) (ls' := [.ref 74, .int 0, .int x2, .int 0, .int x4, .int x5, am_du]) (st' := [.int 0]) rfl ?_
          refine wp_callS (as := [.int 0]) (rest := []) (els := [.int 0]) rfl rfl rfl rfl rfl rfl rfl rfl (by omega) ?_
          refine sp_m_isSheet (by omega) (fun _ _ _ => ?_) (fun q => absurd rfl (q 0 (by omega)))
          show am_wp L xs _ _ _ _ 11 [.ref 74, .int 0, .int x2, .int 0, .int x4, .int x5, am_du] [.int 1] (am_S b) (am_u h 73 1 (h 73 1 + 1)) _
          refine wp_if_t rfl (show ¬ (1 : Int32) = 0 from by decide) ?_
          refine wp_run 1 (pc' := 18) (ls' := [.ref 74, .int 0, .int x2, .int 0, .int x4, .int x5, am_du]) (st' := [.ref 74]) rfl ?_
          refine wp_getr 78 rfl rfl rfl ?_
          refine wp_run 1 (pc' := 22) (ls' := [.ref 74, .int 0, .int x2, .int 0, .int x4, .int x5, am_du]) (st' := [.int 0, .ref 78]) rfl ?_
          refine wp_ald (i := 0) (h 78 0) rfl rfl rfl rfl (by decide) rfl ?_
          refine wp_if_f rfl (show ¬ ((h 78 0) = 0) from (fun q => cqz0 (hob.trans q))) ?_
          refine wp_run 1 (pc' := 27) (ls' := [.ref 74, .int 0, .int x2, .int 0, .int x4, .int x5, am_du]) (st' := [.ref 74]) rfl ?_
          refine wp_getr 78 rfl rfl rfl ?_
          refine wp_run 1 (pc' := 31) (ls' := [.ref 74, .int 0, .int x2, .int 0, .int x4, .int x5, am_du]) (st' := [.int 0, .ref 78]) rfl ?_
          refine wp_ald (i := 0) (h 78 0) rfl rfl rfl rfl (by decide) rfl ?_
          refine wp_if_t rfl (show ¬ (h 78 0) = 0 from (fun q => cqz0 (hob.trans q))) ?_
          refine wp_run 1 (pc' := 39) (ls' := [.ref 74, .int 0, .int x2, .int 0, .int x4, .int x5, am_du]) (st' := [.ref 74]) rfl ?_
          refine wp_getr 78 rfl rfl rfl ?_
          refine wp_run 1 (pc' := 43) (ls' := [.ref 74, .int 0, .int x2, .int 0, .int x4, .int x5, am_du]) (st' := [.int 0, .ref 78]) rfl ?_
          refine wp_ald (i := 0) (h 78 0) rfl rfl rfl rfl (by decide) rfl ?_
          refine wp_run 1 (pc' := 45) (ls' := [.ref 74, .int 0, .int x2, .int 0, .int x4, .int x5, am_du]) (st' := [.ref 74, .int (h 78 0)]) rfl ?_
          refine wp_getr 78 rfl rfl rfl ?_
          refine wp_run 1 (pc' := 49) (ls' := [.ref 74, .int 0, .int x2, .int 0, .int x4, .int x5, am_du]) (st' := [.int 0, .ref 78, .int (h 78 0)]) rfl ?_
          refine wp_ald (i := 0) (h 78 0) rfl rfl rfl rfl (by decide) rfl ?_
          refine wp_icmp_t rfl (show (h 78 0) = (h 78 0) from rfl) ?_
          refine wp_run 1 (pc' := 58) (ls' := [.ref 74, .int 0, .int x2, .int 0, .int x4, .int x5, am_du]) (st' := [.int x5]) rfl ?_
          refine wp_if rfl (fun (cq58 : x5 < 0) => ?_) (fun (cq58 : ¬ (x5 < 0)) => ?_)
          · skip
            refine wp_run 3 (pc' := 106) (ls' := [.ref 74, .int 0, .int x2, .int 0, .int x4, .int x5, .int 0]) (st' := [.int 0]) rfl ?_
            refine wp_if_t rfl (show (0 : Int32) = 0 from by decide) ?_
            refine wp_run 1 (pc' := 115) (ls' := [.ref 74, .int 0, .int x2, .int 0, .int x4, .int x5, .int 0]) (st' := [.int (-1000000001)]) rfl ?_
            refine wp_ret rfl ?_
            show am_wp L xs _ _ _ _ 11 [.ref 74, .int 0, .int x2, .int 0, .int x4, .int x5, am_du, am_du, am_du] [.int (-1000000001)] (am_S b) (am_u h 73 1 (h 73 1 + 1)) _
            refine wp_run 2 (pc' := 15) (ls' := [.ref 74, .int 0, .int x2, .int 0, .int x4, .int x5, .int (-1000000001), am_du, am_du]) (st' := [.int (-1000000001)]) rfl ?_
            refine wp_if_f rfl (show ¬ (((-1000000001) : Int32) = 0) from by decide) ?_
            refine wp_run 2 (pc' := 21) (ls' := [.ref 74, .int 0, .int x2, .int 0, .int x4, .int x5, .int (-1000000001), am_du, am_du]) (st' := [.int (-1000000001), .ref 74]) rfl ?_
            refine wp_callV (o := 74) (as := [.int (-1000000001)]) (rest := []) (els := [.ref 74, .int (-1000000001)]) rfl rfl rfl rfl rfl rfl rfl rfl (by omega) ?_
            refine sp_error1 ?_
            show am_wp L xs _ _ _ _ 24 [.ref 74, .int 0, .int x2, .int 0, .int x4, .int x5, .int (-1000000001), am_du, am_du] [.int (-1000000001)] (am_S b) (am_u (am_u h 73 1 (h 73 1 + 1)) 77 1 ((am_u h 73 1 (h 73 1 + 1)) 77 1 + 1)) _
            refine wp_ret rfl ?_
            exact kk2 _ _ (re_err1 hR)
          · skip
            obtain ⟨k5, hk5, ek5⟩ := pu_nonneg (Int32.not_lt.mp cq58)
            subst ek5
            refine wp_run 1 (pc' := 62) (ls' := [.ref 74, .int 0, .int x2, .int 0, .int x4, .int (nI k5), am_du]) (st' := [.int x2]) rfl ?_
            refine wp_if rfl (fun (cq62 : x2 < 0) => ?_) (fun (cq62 : ¬ (x2 < 0)) => ?_)
            · skip
              refine wp_run 3 (pc' := 106) (ls' := [.ref 74, .int 0, .int x2, .int 0, .int x4, .int (nI k5), .int 0]) (st' := [.int 0]) rfl ?_
              refine wp_if_t rfl (show (0 : Int32) = 0 from by decide) ?_
              refine wp_run 1 (pc' := 115) (ls' := [.ref 74, .int 0, .int x2, .int 0, .int x4, .int (nI k5), .int 0]) (st' := [.int (-1000000001)]) rfl ?_
              refine wp_ret rfl ?_
              show am_wp L xs _ _ _ _ 11 [.ref 74, .int 0, .int x2, .int 0, .int x4, .int (nI k5), am_du, am_du, am_du] [.int (-1000000001)] (am_S b) (am_u h 73 1 (h 73 1 + 1)) _
              refine wp_run 2 (pc' := 15) (ls' := [.ref 74, .int 0, .int x2, .int 0, .int x4, .int (nI k5), .int (-1000000001), am_du, am_du]) (st' := [.int (-1000000001)]) rfl ?_
              refine wp_if_f rfl (show ¬ (((-1000000001) : Int32) = 0) from by decide) ?_
              refine wp_run 2 (pc' := 21) (ls' := [.ref 74, .int 0, .int x2, .int 0, .int x4, .int (nI k5), .int (-1000000001), am_du, am_du]) (st' := [.int (-1000000001), .ref 74]) rfl ?_
              refine wp_callV (o := 74) (as := [.int (-1000000001)]) (rest := []) (els := [.ref 74, .int (-1000000001)]) rfl rfl rfl rfl rfl rfl rfl rfl (by omega) ?_
              refine sp_error1 ?_
              show am_wp L xs _ _ _ _ 24 [.ref 74, .int 0, .int x2, .int 0, .int x4, .int (nI k5), .int (-1000000001), am_du, am_du] [.int (-1000000001)] (am_S b) (am_u (am_u h 73 1 (h 73 1 + 1)) 77 1 ((am_u h 73 1 (h 73 1 + 1)) 77 1 + 1)) _
              refine wp_ret rfl ?_
              exact kk2 _ _ (re_err1 hR)
            · skip
              obtain ⟨k2, hk2, ek2⟩ := pu_nonneg (Int32.not_lt.mp cq62)
              subst ek2
              refine wp_run 1 (pc' := 67) (ls' := [.ref 74, .int 0, .int (nI k2), .int 0, .int x4, .int (nI k5), am_du]) (st' := [.int x4]) rfl ?_
              refine wp_if rfl (fun (cq67 : x4 < 0) => ?_) (fun (cq67 : ¬ (x4 < 0)) => ?_)
              · skip
                refine wp_run 3 (pc' := 106) (ls' := [.ref 74, .int 0, .int (nI k2), .int 0, .int x4, .int (nI k5), .int 0]) (st' := [.int 0]) rfl ?_
                refine wp_if_t rfl (show (0 : Int32) = 0 from by decide) ?_
                refine wp_run 1 (pc' := 115) (ls' := [.ref 74, .int 0, .int (nI k2), .int 0, .int x4, .int (nI k5), .int 0]) (st' := [.int (-1000000001)]) rfl ?_
                refine wp_ret rfl ?_
                show am_wp L xs _ _ _ _ 11 [.ref 74, .int 0, .int (nI k2), .int 0, .int x4, .int (nI k5), am_du, am_du, am_du] [.int (-1000000001)] (am_S b) (am_u h 73 1 (h 73 1 + 1)) _
                refine wp_run 2 (pc' := 15) (ls' := [.ref 74, .int 0, .int (nI k2), .int 0, .int x4, .int (nI k5), .int (-1000000001), am_du, am_du]) (st' := [.int (-1000000001)]) rfl ?_
                refine wp_if_f rfl (show ¬ (((-1000000001) : Int32) = 0) from by decide) ?_
                refine wp_run 2 (pc' := 21) (ls' := [.ref 74, .int 0, .int (nI k2), .int 0, .int x4, .int (nI k5), .int (-1000000001), am_du, am_du]) (st' := [.int (-1000000001), .ref 74]) rfl ?_
                refine wp_callV (o := 74) (as := [.int (-1000000001)]) (rest := []) (els := [.ref 74, .int (-1000000001)]) rfl rfl rfl rfl rfl rfl rfl rfl (by omega) ?_
                refine sp_error1 ?_
                show am_wp L xs _ _ _ _ 24 [.ref 74, .int 0, .int (nI k2), .int 0, .int x4, .int (nI k5), .int (-1000000001), am_du, am_du] [.int (-1000000001)] (am_S b) (am_u (am_u h 73 1 (h 73 1 + 1)) 77 1 ((am_u h 73 1 (h 73 1 + 1)) 77 1 + 1)) _
                refine wp_ret rfl ?_
                exact kk2 _ _ (re_err1 hR)
              · skip
                obtain ⟨k4, hk4, ek4⟩ := pu_nonneg (Int32.not_lt.mp cq67)
                subst ek4
                refine wp_run 2 (pc' := 73) (ls' := [.ref 74, .int 0, .int (nI k2), .int 0, .int (nI k4), .int (nI k5), am_du]) (st' := [.ref 74, .int (nI k5)]) rfl ?_
                refine wp_getr 79 rfl rfl rfl ?_
                refine wp_run 1 (pc' := 77) (ls' := [.ref 74, .int 0, .int (nI k2), .int 0, .int (nI k4), .int (nI k5), am_du]) (st' := [.int 0, .ref 79, .int (nI k5)]) rfl ?_
                refine wp_ald (i := 0) (nI l) hz2 rfl rfl rfl (by decide) rfl ?_
                refine wp_run 2 (pc' := 80) (ls' := [.ref 74, .int 0, .int (nI k2), .int 0, .int (nI k4), .int (nI k5), am_du]) (st' := [.int ((nI l) - (nI k2)), .int (nI k5)]) rfl ?_
                refine wp_icmp_t rfl (show ((nI l) - (nI k2)) < (nI k5) from Int32.not_le.mp (fun q => hno1 k2 k5 rfl rfl (by have := (pu_suble (by omega) (by omega) hl24).mp q; omega))) ?_
                refine wp_run 3 (pc' := 106) (ls' := [.ref 74, .int 0, .int (nI k2), .int 0, .int (nI k4), .int (nI k5), .int 0]) (st' := [.int 0]) rfl ?_
                refine wp_if_t rfl (show (0 : Int32) = 0 from by decide) ?_
                refine wp_run 1 (pc' := 115) (ls' := [.ref 74, .int 0, .int (nI k2), .int 0, .int (nI k4), .int (nI k5), .int 0]) (st' := [.int (-1000000001)]) rfl ?_
                refine wp_ret rfl ?_
                show am_wp L xs _ _ _ _ 11 [.ref 74, .int 0, .int (nI k2), .int 0, .int (nI k4), .int (nI k5), am_du, am_du, am_du] [.int (-1000000001)] (am_S b) (am_u h 73 1 (h 73 1 + 1)) _
                refine wp_run 2 (pc' := 15) (ls' := [.ref 74, .int 0, .int (nI k2), .int 0, .int (nI k4), .int (nI k5), .int (-1000000001), am_du, am_du]) (st' := [.int (-1000000001)]) rfl ?_
                refine wp_if_f rfl (show ¬ (((-1000000001) : Int32) = 0) from by decide) ?_
                refine wp_run 2 (pc' := 21) (ls' := [.ref 74, .int 0, .int (nI k2), .int 0, .int (nI k4), .int (nI k5), .int (-1000000001), am_du, am_du]) (st' := [.int (-1000000001), .ref 74]) rfl ?_
                refine wp_callV (o := 74) (as := [.int (-1000000001)]) (rest := []) (els := [.ref 74, .int (-1000000001)]) rfl rfl rfl rfl rfl rfl rfl rfl (by omega) ?_
                refine sp_error1 ?_
                show am_wp L xs _ _ _ _ 24 [.ref 74, .int 0, .int (nI k2), .int 0, .int (nI k4), .int (nI k5), .int (-1000000001), am_du, am_du] [.int (-1000000001)] (am_S b) (am_u (am_u h 73 1 (h 73 1 + 1)) 77 1 ((am_u h 73 1 (h 73 1 + 1)) 77 1 + 1)) _
                refine wp_ret rfl ?_
                exact kk2 _ _ (re_err1 hR)
      · skip
        replace cqz0 := Decidable.not_not.mp cqz0
        refine wp_run 2 (pc' := 12) (ls' := [.ref 65]) (st' := [.int 1]) rfl ?_
        refine wp_retz rfl (Or.inr rfl) ?_
        show am_wp L xs _ _ _ _ 41 [.ref 0, .int 0, .int x2, .int 0, .int x4, .int x5, .ref 65, .ref 65] [.int 1] (am_S b) h _
        refine wp_if_t rfl (show ¬ (1 : Int32) = 0 from by decide) ?_
        refine wp_run 2 (pc' := 54) (ls' := [.ref 0, .int 0, .int x2, .int 0, .int x4, .int x5, .ref 65, .ref 65]) (st' := [.int 2, .ref 0]) rfl ?_
        refine wp_callV (o := 0) (as := [.int 2]) (rest := []) (els := [.ref 0, .int 2]) rfl rfl rfl rfl rfl rfl rfl rfl (by omega) ?_
        refine sp_refuse2 (by omega) ?_
        show am_wp L xs _ _ _ _ 57 [.ref 0, .int 0, .int x2, .int 0, .int x4, .int x5, .ref 65, .ref 65] [.int (-1000000002)] (am_S b) (am_u h 73 2 (h 73 2 + 1)) _
        refine wp_ret rfl ?_
        refine kk _ _ _ (fun ms2 Q2 kk2 => ?_)
        refine wp_run 6 (pc' := 8) (ls' := [.ref 74, .int 0, .int x2, .int 0, .int x4, .int x5, am_du, am_du, am_du]) (st' := [.int x5, .int x4, .int 0, .int x2, .int 0, .ref 74]) rfl ?_
        refine wp_callV (o := 74) (as := [.int 0, .int x2, .int 0, .int x4, .int x5]) (rest := []) (els := [.ref 74, .int 0, .int x2, .int 0, .int x4, .int x5, am_du]) rfl rfl rfl rfl rfl rfl rfl rfl (by omega) ?_
        refine wp_run 1 (pc' := 1) (ls' := [.ref 74, .int 0, .int x2, .int 0, .int x4, .int x5, am_du]) (st' := [.int 0]) rfl ?_
        refine wp_callS (as := [.int 0]) (rest := []) (els := [.int 0]) rfl rfl rfl rfl rfl rfl rfl rfl (by omega) ?_
        refine sp_m_isSheet (by omega) (fun _ _ _ => ?_) (fun q => absurd rfl (q 0 (by omega)))
        show am_wp L xs _ _ _ _ 4 [.ref 74, .int 0, .int x2, .int 0, .int x4, .int x5, am_du] [.int 1] (am_S b) (am_u h 73 2 (h 73 2 + 1)) _
        refine wp_if_f rfl (show ¬ ((1 : Int32) = 0) from by decide) ?_
        refine wp_run 1 (pc' := 8) (ls' := [.ref 74, .int 0, .int x2, .int 0, .int x4, .int x5, am_du]) (st' := [.int 0]) rfl ?_
        refine wp_callS (as := [.int 0]) (rest := []) (els := [.int 0]) rfl rfl rfl rfl rfl rfl rfl rfl (by omega) ?_
        refine sp_m_isSheet (by omega) (fun _ _ _ => ?_) (fun q => absurd rfl (q 0 (by omega)))
        show am_wp L xs _ _ _ _ 11 [.ref 74, .int 0, .int x2, .int 0, .int x4, .int x5, am_du] [.int 1] (am_S b) (am_u h 73 2 (h 73 2 + 1)) _
        refine wp_if_t rfl (show ¬ (1 : Int32) = 0 from by decide) ?_
        refine wp_run 1 (pc' := 18) (ls' := [.ref 74, .int 0, .int x2, .int 0, .int x4, .int x5, am_du]) (st' := [.ref 74]) rfl ?_
        refine wp_getr 78 rfl rfl rfl ?_
        refine wp_run 1 (pc' := 22) (ls' := [.ref 74, .int 0, .int x2, .int 0, .int x4, .int x5, am_du]) (st' := [.int 0, .ref 78]) rfl ?_
        refine wp_ald (i := 0) (h 78 0) rfl rfl rfl rfl (by decide) rfl ?_
        refine wp_if_t rfl (show (h 78 0) = 0 from (hob.symm.trans cqz0)) ?_
        refine wp_run 1 (pc' := 37) (ls' := [.ref 74, .int 0, .int x2, .int 0, .int x4, .int x5, am_du]) (st' := [.int (-1000000002)]) rfl ?_
        refine wp_ret rfl ?_
        show am_wp L xs _ _ _ _ 11 [.ref 74, .int 0, .int x2, .int 0, .int x4, .int x5, am_du, am_du, am_du] [.int (-1000000002)] (am_S b) (am_u h 73 2 (h 73 2 + 1)) _
        refine wp_run 2 (pc' := 15) (ls' := [.ref 74, .int 0, .int x2, .int 0, .int x4, .int x5, .int (-1000000002), am_du, am_du]) (st' := [.int (-1000000002)]) rfl ?_
        refine wp_if_f rfl (show ¬ (((-1000000002) : Int32) = 0) from by decide) ?_
        refine wp_run 2 (pc' := 21) (ls' := [.ref 74, .int 0, .int x2, .int 0, .int x4, .int x5, .int (-1000000002), am_du, am_du]) (st' := [.int (-1000000002), .ref 74]) rfl ?_
        refine wp_callV (o := 74) (as := [.int (-1000000002)]) (rest := []) (els := [.ref 74, .int (-1000000002)]) rfl rfl rfl rfl rfl rfl rfl rfl (by omega) ?_
        refine sp_error2 ?_
        show am_wp L xs _ _ _ _ 24 [.ref 74, .int 0, .int x2, .int 0, .int x4, .int x5, .int (-1000000002), am_du, am_du] [.int (-1000000002)] (am_S b) (am_u (am_u h 73 2 (h 73 2 + 1)) 77 2 ((am_u h 73 2 (h 73 2 + 1)) 77 2 + 1)) _
        refine wp_ret rfl ?_
        exact kk2 _ _ (re_err2 hR)
    · skip
      intro ex3
      subst ex3
      show am_wp L xs _ _ _ _ 11 [.ref 0, .int 0, .int x2, .int 1, .int x4, .int x5, am_du, am_du] [.int 1] (am_S b) h _
      refine wp_if_t rfl (show ¬ (1 : Int32) = 0 from by decide) ?_
      obtain ⟨l, hl24, ho2, hz2, hob, hbb, hri⟩ := id hS0
      obtain ⟨lB, hl24B, ho2B, hz2B, hobB, hbbB, hriB⟩ := id hS1
      refine wp_run 1 (pc' := 21) (ls' := [.ref 0, .int 0, .int x2, .int 1, .int x4, .int x5, am_du, am_du]) (st' := [.ref 0]) rfl ?_
      refine wp_getr 64 rfl rfl rfl ?_
      refine wp_run 1 (pc' := 25) (ls' := [.ref 0, .int 0, .int x2, .int 1, .int x4, .int x5, am_du, am_du]) (st' := [.int 0, .ref 64]) rfl ?_
      refine wp_aald (r := 65) rfl rfl (Or.inr rfl) rfl (by decide) rfl rfl ?_
      refine wp_run 2 (pc' := 29) (ls' := [.ref 0, .int 0, .int x2, .int 1, .int x4, .int x5, .ref 65, am_du]) (st' := [.ref 0]) rfl ?_
      refine wp_getr 64 rfl rfl rfl ?_
      refine wp_run 1 (pc' := 33) (ls' := [.ref 0, .int 0, .int x2, .int 1, .int x4, .int x5, .ref 65, am_du]) (st' := [.int 1, .ref 64]) rfl ?_
      refine wp_aald (r := 67) rfl rfl (Or.inr rfl) rfl (by decide) rfl rfl ?_
      refine wp_run 2 (pc' := 38) (ls' := [.ref 0, .int 0, .int x2, .int 1, .int x4, .int x5, .ref 65, .ref 67]) (st' := [.ref 65]) rfl ?_
      refine wp_callV (o := 65) (as := []) (rest := []) (els := [.ref 65]) rfl rfl rfl rfl rfl rfl rfl rfl (by omega) ?_
      refine wp_run 1 (pc' := 1) (ls' := [.ref 65]) (st' := [.ref 65]) rfl ?_
      refine wp_geti (a := 1) (h 65 1) rfl rfl rfl rfl ?_
      refine wp_if rfl (fun (cqz0 : ¬ (h 65 1) = 0) => ?_) (fun (cqz0 : ¬ (¬ (h 65 1) = 0)) => ?_)
      · skip
        refine wp_run 1 (pc' := 12) (ls' := [.ref 65]) (st' := [.int 0]) rfl ?_
        refine wp_retz rfl (Or.inl rfl) ?_
        show am_wp L xs _ _ _ _ 41 [.ref 0, .int 0, .int x2, .int 1, .int x4, .int x5, .ref 65, .ref 67] [.int 0] (am_S b) h _
        refine wp_if_f rfl (show ¬ (¬ (0 : Int32) = 0) from by decide) ?_
        refine wp_run 1 (pc' := 46) (ls' := [.ref 0, .int 0, .int x2, .int 1, .int x4, .int x5, .ref 65, .ref 67]) (st' := [.ref 67]) rfl ?_
        refine wp_callV (o := 67) (as := []) (rest := []) (els := [.ref 67]) rfl rfl rfl rfl rfl rfl rfl rfl (by omega) ?_
        refine wp_run 1 (pc' := 1) (ls' := [.ref 67]) (st' := [.ref 67]) rfl ?_
        refine wp_geti (a := 1) (h 67 1) rfl rfl rfl rfl ?_
        refine wp_if rfl (fun (cqz1 : ¬ (h 67 1) = 0) => ?_) (fun (cqz1 : ¬ (¬ (h 67 1) = 0)) => ?_)
        · skip
          refine wp_run 1 (pc' := 12) (ls' := [.ref 67]) (st' := [.int 0]) rfl ?_
          refine wp_retz rfl (Or.inl rfl) ?_
          show am_wp L xs _ _ _ _ 49 [.ref 0, .int 0, .int x2, .int 1, .int x4, .int x5, .ref 65, .ref 67] [.int 0] (am_S b) h _
          refine wp_if_t rfl (show (0 : Int32) = 0 from by decide) ?_
          refine wp_run 1 (pc' := 60) (ls' := [.ref 0, .int 0, .int x2, .int 1, .int x4, .int x5, .ref 65, .ref 67]) (st' := [.ref 65]) rfl ?_
          refine wp_geti (a := 1) (h 65 1) rfl rfl rfl rfl ?_
          refine wp_run 1 (pc' := 65) (ls' := [.ref 0, .int 0, .int x2, .int 1, .int x4, .int x5, .ref 65, .ref 67]) (st' := [.ref 67, .int (h 65 1)]) rfl ?_
          refine wp_geti (a := 1) (h 67 1) rfl rfl rfl rfl ?_
          refine wp_icmp rfl (fun (cqe : (h 65 1) = (h 67 1)) => ?_) (fun (cqe : ¬ ((h 65 1) = (h 67 1))) => ?_)
          · skip
            refine wp_run 3 (pc' := 82) (ls' := [.ref 0, .int 0, .int x2, .int 1, .int x4, .int x5, .ref 65, .ref 67]) (st' := [.int x5, .int x2, .ref 65]) rfl ?_
            refine wp_callV (o := 65) (as := [.int x2, .int x5]) (rest := []) (els := [.ref 65, .int x2, .int x5]) rfl rfl rfl rfl rfl rfl rfl rfl (by omega) ?_
            refine sp_holds (h := h) (o := 65) (l := l) rfl ho2 hl24 (by omega) ?_ ?_
            · skip
              intro k2 k5 e5 e2 hle1
              subst e5
              subst e2
              show am_wp L xs _ _ _ _ 85 [.ref 0, .int 0, .int (nI k2), .int 1, .int x4, .int (nI k5), .ref 65, .ref 67] [.int 1] (am_S b) h _
              refine wp_if_f rfl (show ¬ ((1 : Int32) = 0) from by decide) ?_
              refine wp_run 3 (pc' := 94) (ls' := [.ref 0, .int 0, .int (nI k2), .int 1, .int x4, .int (nI k5), .ref 65, .ref 67]) (st' := [.int (nI k5), .int x4, .ref 67]) rfl ?_
              refine wp_callV (o := 67) (as := [.int x4, .int (nI k5)]) (rest := []) (els := [.ref 67, .int x4, .int (nI k5)]) rfl rfl rfl rfl rfl rfl rfl rfl (by omega) ?_
              refine sp_holds (h := h) (o := 67) (l := lB) rfl ho2B hl24B (by omega) ?_ ?_
              · skip
                intro k4 n4 q1 e4 hle2
                have en := pu_inj (by omega) (by omega) q1
                subst en
                subst e4
                show am_wp L xs _ _ _ _ 97 [.ref 0, .int 0, .int (nI k2), .int 1, .int (nI k4), .int (nI k5), .ref 65, .ref 67] [.int 1] (am_S b) h _
                refine wp_if_t rfl (show ¬ (1 : Int32) = 0 from by decide) ?_
                refine wp_run 1 (pc' := 108) (ls' := [.ref 0, .int 0, .int (nI k2), .int 1, .int (nI k4), .int (nI k5), .ref 65, .ref 67]) (st' := [.ref 65]) rfl ?_
                refine wp_getr 66 rfl rfl rfl ?_
                refine wp_run 2 (pc' := 114) (ls' := [.ref 0, .int 0, .int (nI k2), .int 1, .int (nI k4), .int (nI k5), .ref 65, .ref 67]) (st' := [.ref 67, .int (nI k2), .ref 66]) rfl ?_
                refine wp_getr 68 rfl rfl rfl ?_
                refine wp_run 2 (pc' := 121) (ls' := [.ref 0, .int 0, .int (nI k2), .int 1, .int (nI k4), .int (nI k5), .ref 65, .ref 67]) (st' := [.int (nI k5), .int (nI k4), .ref 68, .int (nI k2), .ref 66]) rfl ?_
                refine wp_copy (q := 66) (o := 68) (sp := k2) (dp := k4) (n := k5) rfl rfl rfl rfl rfl rfl (by omega) (by omega) (by omega) (by omega) rfl (by omega) ?_
                refine wp_run 1 (pc' := 126) (ls' := [.ref 0, .int 0, .int (nI k2), .int 1, .int (nI k4), .int (nI k5), .ref 65, .ref 67]) (st' := [.int (nI k5)]) rfl ?_
                refine wp_ret rfl ?_
                refine kk _ _ _ (fun ms2 Q2 kk2 => ?_)
                refine wp_run 6 (pc' := 8) (ls' := [.ref 74, .int 0, .int (nI k2), .int 1, .int (nI k4), .int (nI k5), am_du, am_du, am_du]) (st' := [.int (nI k5), .int (nI k4), .int 1, .int (nI k2), .int 0, .ref 74]) rfl ?_
                refine wp_callV (o := 74) (as := [.int 0, .int (nI k2), .int 1, .int (nI k4), .int (nI k5)]) (rest := []) (els := [.ref 74, .int 0, .int (nI k2), .int 1, .int (nI k4), .int (nI k5), am_du]) rfl rfl rfl rfl rfl rfl rfl rfl (by omega) ?_
                refine wp_run 1 (pc' := 1) (ls' := [.ref 74, .int 0, .int (nI k2), .int 1, .int (nI k4), .int (nI k5), am_du]) (st' := [.int 0]) rfl ?_
                refine wp_callS (as := [.int 0]) (rest := []) (els := [.int 0]) rfl rfl rfl rfl rfl rfl rfl rfl (by omega) ?_
                refine sp_m_isSheet (by omega) (fun _ _ _ => ?_) (fun q => absurd rfl (q 0 (by omega)))
                show am_wp L xs _ _ _ _ 4 [.ref 74, .int 0, .int (nI k2), .int 1, .int (nI k4), .int (nI k5), am_du] [.int 1] (am_S b) (am_ur h 68 (va_cpy (h 66) (h 68) k2 k4 k5)) _
                refine wp_if_f rfl (show ¬ ((1 : Int32) = 0) from by decide) ?_
                refine wp_run 1 (pc' := 8) (ls' := [.ref 74, .int 0, .int (nI k2), .int 1, .int (nI k4), .int (nI k5), am_du]) (st' := [.int 1]) rfl ?_
                refine wp_callS (as := [.int 1]) (rest := []) (els := [.int 1]) rfl rfl rfl rfl rfl rfl rfl rfl (by omega) ?_
                refine sp_m_isSheet (by omega) (fun _ _ _ => ?_) (fun q => absurd rfl (q 1 (by omega)))
                show am_wp L xs _ _ _ _ 11 [.ref 74, .int 0, .int (nI k2), .int 1, .int (nI k4), .int (nI k5), am_du] [.int 1] (am_S b) (am_ur h 68 (va_cpy (h 66) (h 68) k2 k4 k5)) _
                refine wp_if_t rfl (show ¬ (1 : Int32) = 0 from by decide) ?_
                refine wp_run 1 (pc' := 18) (ls' := [.ref 74, .int 0, .int (nI k2), .int 1, .int (nI k4), .int (nI k5), am_du]) (st' := [.ref 74]) rfl ?_
                refine wp_getr 78 rfl rfl rfl ?_
                refine wp_run 1 (pc' := 22) (ls' := [.ref 74, .int 0, .int (nI k2), .int 1, .int (nI k4), .int (nI k5), am_du]) (st' := [.int 0, .ref 78]) rfl ?_
                refine wp_ald (i := 0) (h 78 0) rfl rfl rfl rfl (by decide) rfl ?_
                refine wp_if_f rfl (show ¬ ((h 78 0) = 0) from (fun q => cqz0 (hob.trans q))) ?_
                refine wp_run 1 (pc' := 27) (ls' := [.ref 74, .int 0, .int (nI k2), .int 1, .int (nI k4), .int (nI k5), am_du]) (st' := [.ref 74]) rfl ?_
                refine wp_getr 78 rfl rfl rfl ?_
                refine wp_run 1 (pc' := 31) (ls' := [.ref 74, .int 0, .int (nI k2), .int 1, .int (nI k4), .int (nI k5), am_du]) (st' := [.int 1, .ref 78]) rfl ?_
                refine wp_ald (i := 1) (h 78 1) rfl rfl rfl rfl (by decide) rfl ?_
                refine wp_if_t rfl (show ¬ (h 78 1) = 0 from (fun q => cqz1 (hobB.trans q))) ?_
                refine wp_run 1 (pc' := 39) (ls' := [.ref 74, .int 0, .int (nI k2), .int 1, .int (nI k4), .int (nI k5), am_du]) (st' := [.ref 74]) rfl ?_
                refine wp_getr 78 rfl rfl rfl ?_
                refine wp_run 1 (pc' := 43) (ls' := [.ref 74, .int 0, .int (nI k2), .int 1, .int (nI k4), .int (nI k5), am_du]) (st' := [.int 0, .ref 78]) rfl ?_
                refine wp_ald (i := 0) (h 78 0) rfl rfl rfl rfl (by decide) rfl ?_
                refine wp_run 1 (pc' := 45) (ls' := [.ref 74, .int 0, .int (nI k2), .int 1, .int (nI k4), .int (nI k5), am_du]) (st' := [.ref 74, .int (h 78 0)]) rfl ?_
                refine wp_getr 78 rfl rfl rfl ?_
                refine wp_run 1 (pc' := 49) (ls' := [.ref 74, .int 0, .int (nI k2), .int 1, .int (nI k4), .int (nI k5), am_du]) (st' := [.int 1, .ref 78, .int (h 78 0)]) rfl ?_
                refine wp_ald (i := 1) (h 78 1) rfl rfl rfl rfl (by decide) rfl ?_
                refine wp_icmp_t rfl (show (h 78 0) = (h 78 1) from (hob.symm.trans (cqe.trans hobB))) ?_
                refine wp_run 1 (pc' := 58) (ls' := [.ref 74, .int 0, .int (nI k2), .int 1, .int (nI k4), .int (nI k5), am_du]) (st' := [.int (nI k5)]) rfl ?_
                refine wp_if_f rfl (show ¬ ((nI k5) < 0) from mt (nI_ltI (a := k5) (b := 0) (by omega) (by omega)).mp (by omega)) ?_
                refine wp_run 1 (pc' := 62) (ls' := [.ref 74, .int 0, .int (nI k2), .int 1, .int (nI k4), .int (nI k5), am_du]) (st' := [.int (nI k2)]) rfl ?_
                refine wp_if_f rfl (show ¬ ((nI k2) < 0) from mt (nI_ltI (a := k2) (b := 0) (by omega) (by omega)).mp (by omega)) ?_
                refine wp_run 1 (pc' := 67) (ls' := [.ref 74, .int 0, .int (nI k2), .int 1, .int (nI k4), .int (nI k5), am_du]) (st' := [.int (nI k4)]) rfl ?_
                refine wp_if_f rfl (show ¬ ((nI k4) < 0) from mt (nI_ltI (a := k4) (b := 0) (by omega) (by omega)).mp (by omega)) ?_
                refine wp_run 2 (pc' := 73) (ls' := [.ref 74, .int 0, .int (nI k2), .int 1, .int (nI k4), .int (nI k5), am_du]) (st' := [.ref 74, .int (nI k5)]) rfl ?_
                refine wp_getr 79 rfl rfl rfl ?_
                refine wp_run 1 (pc' := 77) (ls' := [.ref 74, .int 0, .int (nI k2), .int 1, .int (nI k4), .int (nI k5), am_du]) (st' := [.int 0, .ref 79, .int (nI k5)]) rfl ?_
                refine wp_ald (i := 0) (nI l) hz2 rfl rfl rfl (by decide) rfl ?_
                refine wp_run 2 (pc' := 80) (ls' := [.ref 74, .int 0, .int (nI k2), .int 1, .int (nI k4), .int (nI k5), am_du]) (st' := [.int ((nI l) - (nI k2)), .int (nI k5)]) rfl ?_
                refine wp_icmp_f rfl (show ¬ (((nI l) - (nI k2)) < (nI k5)) from Int32.not_lt.mpr ((pu_suble (by omega) (by omega) hl24).mpr (by omega))) ?_
                refine wp_run 2 (pc' := 86) (ls' := [.ref 74, .int 0, .int (nI k2), .int 1, .int (nI k4), .int (nI k5), am_du]) (st' := [.ref 74, .int (nI k5)]) rfl ?_
                refine wp_getr 79 rfl rfl rfl ?_
                refine wp_run 1 (pc' := 90) (ls' := [.ref 74, .int 0, .int (nI k2), .int 1, .int (nI k4), .int (nI k5), am_du]) (st' := [.int 1, .ref 79, .int (nI k5)]) rfl ?_
                refine wp_ald (i := 1) (nI lB) hz2B rfl rfl rfl (by decide) rfl ?_
                refine wp_run 2 (pc' := 94) (ls' := [.ref 74, .int 0, .int (nI k2), .int 1, .int (nI k4), .int (nI k5), am_du]) (st' := [.int ((nI lB) - (nI k4)), .int (nI k5)]) rfl ?_
                refine wp_icmp_f rfl (show ¬ (((nI lB) - (nI k4)) < (nI k5)) from Int32.not_lt.mpr ((pu_suble (by omega) (by omega) hl24B).mpr (by omega))) ?_
                refine wp_run 4 (pc' := 106) (ls' := [.ref 74, .int 0, .int (nI k2), .int 1, .int (nI k4), .int (nI k5), .int 1]) (st' := [.int 1]) rfl ?_
                refine wp_if_f rfl (show ¬ ((1 : Int32) = 0) from by decide) ?_
                refine wp_run 2 (pc' := 115) (ls' := [.ref 74, .int 0, .int (nI k2), .int 1, .int (nI k4), .int (nI k5), .int 1]) (st' := [.int 0]) rfl ?_
                refine wp_ret rfl ?_
                show am_wp L xs _ _ _ _ 11 [.ref 74, .int 0, .int (nI k2), .int 1, .int (nI k4), .int (nI k5), am_du, am_du, am_du] [.int 0] (am_S b) (am_ur h 68 (va_cpy (h 66) (h 68) k2 k4 k5)) _
                refine wp_run 2 (pc' := 15) (ls' := [.ref 74, .int 0, .int (nI k2), .int 1, .int (nI k4), .int (nI k5), .int 0, am_du, am_du]) (st' := [.int 0]) rfl ?_
                refine wp_if_t rfl (show (0 : Int32) = 0 from by decide) ?_
                refine wp_run 2 (pc' := 28) (ls' := [.ref 74, .int 0, .int (nI k2), .int 1, .int (nI k4), .int (nI k5), .int 0, .int 0, am_du]) (st' := []) rfl ?_
                by_cases hij : k2 < k4
                · have hp := lp_mvd (L := L) (xs := xs) (d := d) (ms := ms2) (b := b) (h := (am_ur h 68 (va_cpy (h 66) (h 68) k2 k4 k5))) (Q := Q2) (s := 0) (o := 1) (i := k2) (j := k4) (n := k5) (by omega) (by omega) (by omega) (by omega) hij (by omega) ?_ k5 0 am_du (by omega)
                  · rw [mv_d0] at hp; exact hp
                  · exact kk2 _ _ ⟨⟨n, c, t, tp, wt, s0, s1, p0, p1, H⟩, re_im_s hI, hE, (re_sh_mo hS0 (by decide) (by omega)), (re_sh_m hS0 hS1 (by omega) (by omega)), (re_sh_mo hS2 (by decide) (by omega)), (re_sh_mo hS3 (by decide) (by omega)), hT⟩
                · have hp := lp_mva (L := L) (xs := xs) (d := d) (ms := ms2) (b := b) (h := (am_ur h 68 (va_cpy (h 66) (h 68) k2 k4 k5))) (Q := Q2) (s := 0) (o := 1) (i := k2) (j := k4) (n := k5) (by omega) (by omega) (by omega) (by omega) hij (by omega) ?_ k5 0 am_du (by omega)
                  · rw [mv_a0] at hp; exact hp
                  · exact kk2 _ _ ⟨⟨n, c, t, tp, wt, s0, s1, p0, p1, H⟩, re_im_s hI, hE, (re_sh_mo hS0 (by decide) (by omega)), (re_sh_m hS0 hS1 (by omega) (by omega)), (re_sh_mo hS2 (by decide) (by omega)), (re_sh_mo hS3 (by decide) (by omega)), hT⟩
              · skip
                intro hno2
                show am_wp L xs _ _ _ _ 97 [.ref 0, .int 0, .int (nI k2), .int 1, .int x4, .int (nI k5), .ref 65, .ref 67] [.int 0] (am_S b) h _
                refine wp_if_f rfl (show ¬ (¬ (0 : Int32) = 0) from by decide) ?_
                refine wp_run 2 (pc' := 102) (ls' := [.ref 0, .int 0, .int (nI k2), .int 1, .int x4, .int (nI k5), .ref 65, .ref 67]) (st' := [.int 1, .ref 0]) rfl ?_
                refine wp_callV (o := 0) (as := [.int 1]) (rest := []) (els := [.ref 0, .int 1]) rfl rfl rfl rfl rfl rfl rfl rfl (by omega) ?_
                refine sp_refuse1 (by omega) ?_
                show am_wp L xs _ _ _ _ 105 [.ref 0, .int 0, .int (nI k2), .int 1, .int x4, .int (nI k5), .ref 65, .ref 67] [.int (-1000000001)] (am_S b) (am_u h 73 1 (h 73 1 + 1)) _
                refine wp_ret rfl ?_
                refine kk _ _ _ (fun ms2 Q2 kk2 => ?_)
                refine wp_run 6 (pc' := 8) (ls' := [.ref 74, .int 0, .int (nI k2), .int 1, .int x4, .int (nI k5), am_du, am_du, am_du]) (st' := [.int (nI k5), .int x4, .int 1, .int (nI k2), .int 0, .ref 74]) rfl ?_
                refine wp_callV (o := 74) (as := [.int 0, .int (nI k2), .int 1, .int x4, .int (nI k5)]) (rest := []) (els := [.ref 74, .int 0, .int (nI k2), .int 1, .int x4, .int (nI k5), am_du]) rfl rfl rfl rfl rfl rfl rfl rfl (by omega) ?_
                refine wp_run 1 (pc' := 1) (ls' := [.ref 74, .int 0, .int (nI k2), .int 1, .int x4, .int (nI k5), am_du]) (st' := [.int 0]) rfl ?_
                refine wp_callS (as := [.int 0]) (rest := []) (els := [.int 0]) rfl rfl rfl rfl rfl rfl rfl rfl (by omega) ?_
                refine sp_m_isSheet (by omega) (fun _ _ _ => ?_) (fun q => absurd rfl (q 0 (by omega)))
                show am_wp L xs _ _ _ _ 4 [.ref 74, .int 0, .int (nI k2), .int 1, .int x4, .int (nI k5), am_du] [.int 1] (am_S b) (am_u h 73 1 (h 73 1 + 1)) _
                refine wp_if_f rfl (show ¬ ((1 : Int32) = 0) from by decide) ?_
                refine wp_run 1 (pc' := 8) (ls' := [.ref 74, .int 0, .int (nI k2), .int 1, .int x4, .int (nI k5), am_du]) (st' := [.int 1]) rfl ?_
                refine wp_callS (as := [.int 1]) (rest := []) (els := [.int 1]) rfl rfl rfl rfl rfl rfl rfl rfl (by omega) ?_
                refine sp_m_isSheet (by omega) (fun _ _ _ => ?_) (fun q => absurd rfl (q 1 (by omega)))
                show am_wp L xs _ _ _ _ 11 [.ref 74, .int 0, .int (nI k2), .int 1, .int x4, .int (nI k5), am_du] [.int 1] (am_S b) (am_u h 73 1 (h 73 1 + 1)) _
                refine wp_if_t rfl (show ¬ (1 : Int32) = 0 from by decide) ?_
                refine wp_run 1 (pc' := 18) (ls' := [.ref 74, .int 0, .int (nI k2), .int 1, .int x4, .int (nI k5), am_du]) (st' := [.ref 74]) rfl ?_
                refine wp_getr 78 rfl rfl rfl ?_
                refine wp_run 1 (pc' := 22) (ls' := [.ref 74, .int 0, .int (nI k2), .int 1, .int x4, .int (nI k5), am_du]) (st' := [.int 0, .ref 78]) rfl ?_
                refine wp_ald (i := 0) (h 78 0) rfl rfl rfl rfl (by decide) rfl ?_
                refine wp_if_f rfl (show ¬ ((h 78 0) = 0) from (fun q => cqz0 (hob.trans q))) ?_
                refine wp_run 1 (pc' := 27) (ls' := [.ref 74, .int 0, .int (nI k2), .int 1, .int x4, .int (nI k5), am_du]) (st' := [.ref 74]) rfl ?_
                refine wp_getr 78 rfl rfl rfl ?_
                refine wp_run 1 (pc' := 31) (ls' := [.ref 74, .int 0, .int (nI k2), .int 1, .int x4, .int (nI k5), am_du]) (st' := [.int 1, .ref 78]) rfl ?_
                refine wp_ald (i := 1) (h 78 1) rfl rfl rfl rfl (by decide) rfl ?_
                refine wp_if_t rfl (show ¬ (h 78 1) = 0 from (fun q => cqz1 (hobB.trans q))) ?_
                refine wp_run 1 (pc' := 39) (ls' := [.ref 74, .int 0, .int (nI k2), .int 1, .int x4, .int (nI k5), am_du]) (st' := [.ref 74]) rfl ?_
                refine wp_getr 78 rfl rfl rfl ?_
                refine wp_run 1 (pc' := 43) (ls' := [.ref 74, .int 0, .int (nI k2), .int 1, .int x4, .int (nI k5), am_du]) (st' := [.int 0, .ref 78]) rfl ?_
                refine wp_ald (i := 0) (h 78 0) rfl rfl rfl rfl (by decide) rfl ?_
                refine wp_run 1 (pc' := 45) (ls' := [.ref 74, .int 0, .int (nI k2), .int 1, .int x4, .int (nI k5), am_du]) (st' := [.ref 74, .int (h 78 0)]) rfl ?_
                refine wp_getr 78 rfl rfl rfl ?_
                refine wp_run 1 (pc' := 49) (ls' := [.ref 74, .int 0, .int (nI k2), .int 1, .int x4, .int (nI k5), am_du]) (st' := [.int 1, .ref 78, .int (h 78 0)]) rfl ?_
                refine wp_ald (i := 1) (h 78 1) rfl rfl rfl rfl (by decide) rfl ?_
                refine wp_icmp_t rfl (show (h 78 0) = (h 78 1) from (hob.symm.trans (cqe.trans hobB))) ?_
                refine wp_run 1 (pc' := 58) (ls' := [.ref 74, .int 0, .int (nI k2), .int 1, .int x4, .int (nI k5), am_du]) (st' := [.int (nI k5)]) rfl ?_
                refine wp_if_f rfl (show ¬ ((nI k5) < 0) from mt (nI_ltI (a := k5) (b := 0) (by omega) (by omega)).mp (by omega)) ?_
                refine wp_run 1 (pc' := 62) (ls' := [.ref 74, .int 0, .int (nI k2), .int 1, .int x4, .int (nI k5), am_du]) (st' := [.int (nI k2)]) rfl ?_
                refine wp_if_f rfl (show ¬ ((nI k2) < 0) from mt (nI_ltI (a := k2) (b := 0) (by omega) (by omega)).mp (by omega)) ?_
                refine wp_run 1 (pc' := 67) (ls' := [.ref 74, .int 0, .int (nI k2), .int 1, .int x4, .int (nI k5), am_du]) (st' := [.int x4]) rfl ?_
                refine wp_if rfl (fun (cq67 : x4 < 0) => ?_) (fun (cq67 : ¬ (x4 < 0)) => ?_)
                · skip
                  refine wp_run 3 (pc' := 106) (ls' := [.ref 74, .int 0, .int (nI k2), .int 1, .int x4, .int (nI k5), .int 0]) (st' := [.int 0]) rfl ?_
                  refine wp_if_t rfl (show (0 : Int32) = 0 from by decide) ?_
                  refine wp_run 1 (pc' := 115) (ls' := [.ref 74, .int 0, .int (nI k2), .int 1, .int x4, .int (nI k5), .int 0]) (st' := [.int (-1000000001)]) rfl ?_
                  refine wp_ret rfl ?_
                  show am_wp L xs _ _ _ _ 11 [.ref 74, .int 0, .int (nI k2), .int 1, .int x4, .int (nI k5), am_du, am_du, am_du] [.int (-1000000001)] (am_S b) (am_u h 73 1 (h 73 1 + 1)) _
                  refine wp_run 2 (pc' := 15) (ls' := [.ref 74, .int 0, .int (nI k2), .int 1, .int x4, .int (nI k5), .int (-1000000001), am_du, am_du]) (st' := [.int (-1000000001)]) rfl ?_
                  refine wp_if_f rfl (show ¬ (((-1000000001) : Int32) = 0) from by decide) ?_
                  refine wp_run 2 (pc' := 21) (ls' := [.ref 74, .int 0, .int (nI k2), .int 1, .int x4, .int (nI k5), .int (-1000000001), am_du, am_du]) (st' := [.int (-1000000001), .ref 74]) rfl ?_
                  refine wp_callV (o := 74) (as := [.int (-1000000001)]) (rest := []) (els := [.ref 74, .int (-1000000001)]) rfl rfl rfl rfl rfl rfl rfl rfl (by omega) ?_
                  refine sp_error1 ?_
                  show am_wp L xs _ _ _ _ 24 [.ref 74, .int 0, .int (nI k2), .int 1, .int x4, .int (nI k5), .int (-1000000001), am_du, am_du] [.int (-1000000001)] (am_S b) (am_u (am_u h 73 1 (h 73 1 + 1)) 77 1 ((am_u h 73 1 (h 73 1 + 1)) 77 1 + 1)) _
                  refine wp_ret rfl ?_
                  exact kk2 _ _ (re_err1 hR)
                · skip
                  obtain ⟨k4, hk4, ek4⟩ := pu_nonneg (Int32.not_lt.mp cq67)
                  subst ek4
                  refine wp_run 2 (pc' := 73) (ls' := [.ref 74, .int 0, .int (nI k2), .int 1, .int (nI k4), .int (nI k5), am_du]) (st' := [.ref 74, .int (nI k5)]) rfl ?_
                  refine wp_getr 79 rfl rfl rfl ?_
                  refine wp_run 1 (pc' := 77) (ls' := [.ref 74, .int 0, .int (nI k2), .int 1, .int (nI k4), .int (nI k5), am_du]) (st' := [.int 0, .ref 79, .int (nI k5)]) rfl ?_
                  refine wp_ald (i := 0) (nI l) hz2 rfl rfl rfl (by decide) rfl ?_
                  refine wp_run 2 (pc' := 80) (ls' := [.ref 74, .int 0, .int (nI k2), .int 1, .int (nI k4), .int (nI k5), am_du]) (st' := [.int ((nI l) - (nI k2)), .int (nI k5)]) rfl ?_
                  refine wp_icmp_f rfl (show ¬ (((nI l) - (nI k2)) < (nI k5)) from Int32.not_lt.mpr ((pu_suble (by omega) (by omega) hl24).mpr (by omega))) ?_
                  refine wp_run 2 (pc' := 86) (ls' := [.ref 74, .int 0, .int (nI k2), .int 1, .int (nI k4), .int (nI k5), am_du]) (st' := [.ref 74, .int (nI k5)]) rfl ?_
                  refine wp_getr 79 rfl rfl rfl ?_
                  refine wp_run 1 (pc' := 90) (ls' := [.ref 74, .int 0, .int (nI k2), .int 1, .int (nI k4), .int (nI k5), am_du]) (st' := [.int 1, .ref 79, .int (nI k5)]) rfl ?_
                  refine wp_ald (i := 1) (nI lB) hz2B rfl rfl rfl (by decide) rfl ?_
                  refine wp_run 2 (pc' := 94) (ls' := [.ref 74, .int 0, .int (nI k2), .int 1, .int (nI k4), .int (nI k5), am_du]) (st' := [.int ((nI lB) - (nI k4)), .int (nI k5)]) rfl ?_
                  refine wp_icmp_t rfl (show ((nI lB) - (nI k4)) < (nI k5) from Int32.not_le.mp (fun q => hno2 k4 k5 rfl rfl (by have := (pu_suble (by omega) (by omega) hl24B).mp q; omega))) ?_
                  refine wp_run 3 (pc' := 106) (ls' := [.ref 74, .int 0, .int (nI k2), .int 1, .int (nI k4), .int (nI k5), .int 0]) (st' := [.int 0]) rfl ?_
                  refine wp_if_t rfl (show (0 : Int32) = 0 from by decide) ?_
                  refine wp_run 1 (pc' := 115) (ls' := [.ref 74, .int 0, .int (nI k2), .int 1, .int (nI k4), .int (nI k5), .int 0]) (st' := [.int (-1000000001)]) rfl ?_
                  refine wp_ret rfl ?_
                  show am_wp L xs _ _ _ _ 11 [.ref 74, .int 0, .int (nI k2), .int 1, .int (nI k4), .int (nI k5), am_du, am_du, am_du] [.int (-1000000001)] (am_S b) (am_u h 73 1 (h 73 1 + 1)) _
                  refine wp_run 2 (pc' := 15) (ls' := [.ref 74, .int 0, .int (nI k2), .int 1, .int (nI k4), .int (nI k5), .int (-1000000001), am_du, am_du]) (st' := [.int (-1000000001)]) rfl ?_
                  refine wp_if_f rfl (show ¬ (((-1000000001) : Int32) = 0) from by decide) ?_
                  refine wp_run 2 (pc' := 21) (ls' := [.ref 74, .int 0, .int (nI k2), .int 1, .int (nI k4), .int (nI k5), .int (-1000000001), am_du, am_du]) (st' := [.int (-1000000001), .ref 74]) rfl ?_
                  refine wp_callV (o := 74) (as := [.int (-1000000001)]) (rest := []) (els := [.ref 74, .int (-1000000001)]) rfl rfl rfl rfl rfl rfl rfl rfl (by omega) ?_
                  refine sp_error1 ?_
                  show am_wp L xs _ _ _ _ 24 [.ref 74, .int 0, .int (nI k2), .int 1, .int (nI k4), .int (nI k5), .int (-1000000001), am_du, am_du] [.int (-1000000001)] (am_S b) (am_u (am_u h 73 1 (h 73 1 + 1)) 77 1 ((am_u h 73 1 (h 73 1 + 1)) 77 1 + 1)) _
                  refine wp_ret rfl ?_
                  exact kk2 _ _ (re_err1 hR)
            · skip
              intro hno1
              show am_wp L xs _ _ _ _ 85 [.ref 0, .int 0, .int x2, .int 1, .int x4, .int x5, .ref 65, .ref 67] [.int 0] (am_S b) h _
              refine wp_if_t rfl (show (0 : Int32) = 0 from by decide) ?_
              refine wp_run 2 (pc' := 102) (ls' := [.ref 0, .int 0, .int x2, .int 1, .int x4, .int x5, .ref 65, .ref 67]) (st' := [.int 1, .ref 0]) rfl ?_
              refine wp_callV (o := 0) (as := [.int 1]) (rest := []) (els := [.ref 0, .int 1]) rfl rfl rfl rfl rfl rfl rfl rfl (by omega) ?_
              refine sp_refuse1 (by omega) ?_
              show am_wp L xs _ _ _ _ 105 [.ref 0, .int 0, .int x2, .int 1, .int x4, .int x5, .ref 65, .ref 67] [.int (-1000000001)] (am_S b) (am_u h 73 1 (h 73 1 + 1)) _
              refine wp_ret rfl ?_
              refine kk _ _ _ (fun ms2 Q2 kk2 => ?_)
              refine wp_run 6 (pc' := 8) (ls' := [.ref 74, .int 0, .int x2, .int 1, .int x4, .int x5, am_du, am_du, am_du]) (st' := [.int x5, .int x4, .int 1, .int x2, .int 0, .ref 74]) rfl ?_
              refine wp_callV (o := 74) (as := [.int 0, .int x2, .int 1, .int x4, .int x5]) (rest := []) (els := [.ref 74, .int 0, .int x2, .int 1, .int x4, .int x5, am_du]) rfl rfl rfl rfl rfl rfl rfl rfl (by omega) ?_
              refine wp_run 1 (pc' := 1) (ls' := [.ref 74, .int 0, .int x2, .int 1, .int x4, .int x5, am_du]) (st' := [.int 0]) rfl ?_
              refine wp_callS (as := [.int 0]) (rest := []) (els := [.int 0]) rfl rfl rfl rfl rfl rfl rfl rfl (by omega) ?_
              refine sp_m_isSheet (by omega) (fun _ _ _ => ?_) (fun q => absurd rfl (q 0 (by omega)))
              show am_wp L xs _ _ _ _ 4 [.ref 74, .int 0, .int x2, .int 1, .int x4, .int x5, am_du] [.int 1] (am_S b) (am_u h 73 1 (h 73 1 + 1)) _
              refine wp_if_f rfl (show ¬ ((1 : Int32) = 0) from by decide) ?_
              refine wp_run 1 (pc' := 8) (ls' := [.ref 74, .int 0, .int x2, .int 1, .int x4, .int x5, am_du]) (st' := [.int 1]) rfl ?_
              refine wp_callS (as := [.int 1]) (rest := []) (els := [.int 1]) rfl rfl rfl rfl rfl rfl rfl rfl (by omega) ?_
              refine sp_m_isSheet (by omega) (fun _ _ _ => ?_) (fun q => absurd rfl (q 1 (by omega)))
              show am_wp L xs _ _ _ _ 11 [.ref 74, .int 0, .int x2, .int 1, .int x4, .int x5, am_du] [.int 1] (am_S b) (am_u h 73 1 (h 73 1 + 1)) _
              refine wp_if_t rfl (show ¬ (1 : Int32) = 0 from by decide) ?_
              refine wp_run 1 (pc' := 18) (ls' := [.ref 74, .int 0, .int x2, .int 1, .int x4, .int x5, am_du]) (st' := [.ref 74]) rfl ?_
              refine wp_getr 78 rfl rfl rfl ?_
              refine wp_run 1 (pc' := 22) (ls' := [.ref 74, .int 0, .int x2, .int 1, .int x4, .int x5, am_du]) (st' := [.int 0, .ref 78]) rfl ?_
              refine wp_ald (i := 0) (h 78 0) rfl rfl rfl rfl (by decide) rfl ?_
              refine wp_if_f rfl (show ¬ ((h 78 0) = 0) from (fun q => cqz0 (hob.trans q))) ?_
              refine wp_run 1 (pc' := 27) (ls' := [.ref 74, .int 0, .int x2, .int 1, .int x4, .int x5, am_du]) (st' := [.ref 74]) rfl ?_
              refine wp_getr 78 rfl rfl rfl ?_
              refine wp_run 1 (pc' := 31) (ls' := [.ref 74, .int 0, .int x2, .int 1, .int x4, .int x5, am_du]) (st' := [.int 1, .ref 78]) rfl ?_
              refine wp_ald (i := 1) (h 78 1) rfl rfl rfl rfl (by decide) rfl ?_
              refine wp_if_t rfl (show ¬ (h 78 1) = 0 from (fun q => cqz1 (hobB.trans q))) ?_
              refine wp_run 1 (pc' := 39) (ls' := [.ref 74, .int 0, .int x2, .int 1, .int x4, .int x5, am_du]) (st' := [.ref 74]) rfl ?_
              refine wp_getr 78 rfl rfl rfl ?_
              refine wp_run 1 (pc' := 43) (ls' := [.ref 74, .int 0, .int x2, .int 1, .int x4, .int x5, am_du]) (st' := [.int 0, .ref 78]) rfl ?_
              refine wp_ald (i := 0) (h 78 0) rfl rfl rfl rfl (by decide) rfl ?_
              refine wp_run 1 (pc' := 45) (ls' := [.ref 74, .int 0, .int x2, .int 1, .int x4, .int x5, am_du]) (st' := [.ref 74, .int (h 78 0)]) rfl ?_
              refine wp_getr 78 rfl rfl rfl ?_
              refine wp_run 1 (pc' := 49) (ls' := [.ref 74, .int 0, .int x2, .int 1, .int x4, .int x5, am_du]) (st' := [.int 1, .ref 78, .int (h 78 0)]) rfl ?_
              refine wp_ald (i := 1) (h 78 1) rfl rfl rfl rfl (by decide) rfl ?_
              refine wp_icmp_t rfl (show (h 78 0) = (h 78 1) from (hob.symm.trans (cqe.trans hobB))) ?_
              refine wp_run 1 (pc' := 58) (ls' := [.ref 74, .int 0, .int x2, .int 1, .int x4, .int x5, am_du]) (st' := [.int x5]) rfl ?_
              refine wp_if rfl (fun (cq58 : x5 < 0) => ?_) (fun (cq58 : ¬ (x5 < 0)) => ?_)
              · skip
                refine wp_run 3 (pc' := 106) (ls' := [.ref 74, .int 0, .int x2, .int 1, .int x4, .int x5, .int 0]) (st' := [.int 0]) rfl ?_
                refine wp_if_t rfl (show (0 : Int32) = 0 from by decide) ?_
                refine wp_run 1 (pc' := 115) (ls' := [.ref 74, .int 0, .int x2, .int 1, .int x4, .int x5, .int 0]) (st' := [.int (-1000000001)]) rfl ?_
                refine wp_ret rfl ?_
                show am_wp L xs _ _ _ _ 11 [.ref 74, .int 0, .int x2, .int 1, .int x4, .int x5, am_du, am_du, am_du] [.int (-1000000001)] (am_S b) (am_u h 73 1 (h 73 1 + 1)) _
                refine wp_run 2 (pc' := 15) (ls' := [.ref 74, .int 0, .int x2, .int 1, .int x4, .int x5, .int (-1000000001), am_du, am_du]) (st' := [.int (-1000000001)]) rfl ?_
                refine wp_if_f rfl (show ¬ (((-1000000001) : Int32) = 0) from by decide) ?_
                refine wp_run 2 (pc' := 21) (ls' := [.ref 74, .int 0, .int x2, .int 1, .int x4, .int x5, .int (-1000000001), am_du, am_du]) (st' := [.int (-1000000001), .ref 74]) rfl ?_
                refine wp_callV (o := 74) (as := [.int (-1000000001)]) (rest := []) (els := [.ref 74, .int (-1000000001)]) rfl rfl rfl rfl rfl rfl rfl rfl (by omega) ?_
                refine sp_error1 ?_
                show am_wp L xs _ _ _ _ 24 [.ref 74, .int 0, .int x2, .int 1, .int x4, .int x5, .int (-1000000001), am_du, am_du] [.int (-1000000001)] (am_S b) (am_u (am_u h 73 1 (h 73 1 + 1)) 77 1 ((am_u h 73 1 (h 73 1 + 1)) 77 1 + 1)) _
                refine wp_ret rfl ?_
                exact kk2 _ _ (re_err1 hR)
              · skip
                obtain ⟨k5, hk5, ek5⟩ := pu_nonneg (Int32.not_lt.mp cq58)
                subst ek5
                refine wp_run 1 (pc' := 62) (ls' := [.ref 74, .int 0, .int x2, .int 1, .int x4, .int (nI k5), am_du]) (st' := [.int x2]) rfl ?_
                refine wp_if rfl (fun (cq62 : x2 < 0) => ?_) (fun (cq62 : ¬ (x2 < 0)) => ?_)
                · skip
                  refine wp_run 3 (pc' := 106) (ls' := [.ref 74, .int 0, .int x2, .int 1, .int x4, .int (nI k5), .int 0]) (st' := [.int 0]) rfl ?_
                  refine wp_if_t rfl (show (0 : Int32) = 0 from by decide) ?_
                  refine wp_run 1 (pc' := 115) (ls' := [.ref 74, .int 0, .int x2, .int 1, .int x4, .int (nI k5), .int 0]) (st' := [.int (-1000000001)]) rfl ?_
                  refine wp_ret rfl ?_
                  show am_wp L xs _ _ _ _ 11 [.ref 74, .int 0, .int x2, .int 1, .int x4, .int (nI k5), am_du, am_du, am_du] [.int (-1000000001)] (am_S b) (am_u h 73 1 (h 73 1 + 1)) _
                  refine wp_run 2 (pc' := 15) (ls' := [.ref 74, .int 0, .int x2, .int 1, .int x4, .int (nI k5), .int (-1000000001), am_du, am_du]) (st' := [.int (-1000000001)]) rfl ?_
                  refine wp_if_f rfl (show ¬ (((-1000000001) : Int32) = 0) from by decide) ?_
                  refine wp_run 2 (pc' := 21) (ls' := [.ref 74, .int 0, .int x2, .int 1, .int x4, .int (nI k5), .int (-1000000001), am_du, am_du]) (st' := [.int (-1000000001), .ref 74]) rfl ?_
                  refine wp_callV (o := 74) (as := [.int (-1000000001)]) (rest := []) (els := [.ref 74, .int (-1000000001)]) rfl rfl rfl rfl rfl rfl rfl rfl (by omega) ?_
                  refine sp_error1 ?_
                  show am_wp L xs _ _ _ _ 24 [.ref 74, .int 0, .int x2, .int 1, .int x4, .int (nI k5), .int (-1000000001), am_du, am_du] [.int (-1000000001)] (am_S b) (am_u (am_u h 73 1 (h 73 1 + 1)) 77 1 ((am_u h 73 1 (h 73 1 + 1)) 77 1 + 1)) _
                  refine wp_ret rfl ?_
                  exact kk2 _ _ (re_err1 hR)
                · skip
                  obtain ⟨k2, hk2, ek2⟩ := pu_nonneg (Int32.not_lt.mp cq62)
                  subst ek2
                  refine wp_run 1 (pc' := 67) (ls' := [.ref 74, .int 0, .int (nI k2), .int 1, .int x4, .int (nI k5), am_du]) (st' := [.int x4]) rfl ?_
                  refine wp_if rfl (fun (cq67 : x4 < 0) => ?_) (fun (cq67 : ¬ (x4 < 0)) => ?_)
                  · skip
                    refine wp_run 3 (pc' := 106) (ls' := [.ref 74, .int 0, .int (nI k2), .int 1, .int x4, .int (nI k5), .int 0]) (st' := [.int 0]) rfl ?_
                    refine wp_if_t rfl (show (0 : Int32) = 0 from by decide) ?_
                    refine wp_run 1 (pc' := 115) (ls' := [.ref 74, .int 0, .int (nI k2), .int 1, .int x4, .int (nI k5), .int 0]) (st' := [.int (-1000000001)]) rfl ?_
                    refine wp_ret rfl ?_
                    show am_wp L xs _ _ _ _ 11 [.ref 74, .int 0, .int (nI k2), .int 1, .int x4, .int (nI k5), am_du, am_du, am_du] [.int (-1000000001)] (am_S b) (am_u h 73 1 (h 73 1 + 1)) _
                    refine wp_run 2 (pc' := 15) (ls' := [.ref 74, .int 0, .int (nI k2), .int 1, .int x4, .int (nI k5), .int (-1000000001), am_du, am_du]) (st' := [.int (-1000000001)]) rfl ?_
                    refine wp_if_f rfl (show ¬ (((-1000000001) : Int32) = 0) from by decide) ?_
                    refine wp_run 2 (pc' := 21) (ls' := [.ref 74, .int 0, .int (nI k2), .int 1, .int x4, .int (nI k5), .int (-1000000001), am_du, am_du]) (st' := [.int (-1000000001), .ref 74]) rfl ?_
                    refine wp_callV (o := 74) (as := [.int (-1000000001)]) (rest := []) (els := [.ref 74, .int (-1000000001)]) rfl rfl rfl rfl rfl rfl rfl rfl (by omega) ?_
                    refine sp_error1 ?_
                    show am_wp L xs _ _ _ _ 24 [.ref 74, .int 0, .int (nI k2), .int 1, .int x4, .int (nI k5), .int (-1000000001), am_du, am_du] [.int (-1000000001)] (am_S b) (am_u (am_u h 73 1 (h 73 1 + 1)) 77 1 ((am_u h 73 1 (h 73 1 + 1)) 77 1 + 1)) _
                    refine wp_ret rfl ?_
                    exact kk2 _ _ (re_err1 hR)
                  · skip
                    obtain ⟨k4, hk4, ek4⟩ := pu_nonneg (Int32.not_lt.mp cq67)
                    subst ek4
                    refine wp_run 2 (pc' := 73) (ls' := [.ref 74, .int 0, .int (nI k2), .int 1, .int (nI k4), .int (nI k5), am_du]) (st' := [.ref 74, .int (nI k5)]) rfl ?_
                    refine wp_getr 79 rfl rfl rfl ?_
                    refine wp_run 1 (pc' := 77) (ls' := [.ref 74, .int 0, .int (nI k2), .int 1, .int (nI k4), .int (nI k5), am_du]) (st' := [.int 0, .ref 79, .int (nI k5)]) rfl ?_
                    refine wp_ald (i := 0) (nI l) hz2 rfl rfl rfl (by decide) rfl ?_
                    refine wp_run 2 (pc' := 80) (ls' := [.ref 74, .int 0, .int (nI k2), .int 1, .int (nI k4), .int (nI k5), am_du]) (st' := [.int ((nI l) - (nI k2)), .int (nI k5)]) rfl ?_
                    refine wp_icmp_t rfl (show ((nI l) - (nI k2)) < (nI k5) from Int32.not_le.mp (fun q => hno1 k2 k5 rfl rfl (by have := (pu_suble (by omega) (by omega) hl24).mp q; omega))) ?_
                    refine wp_run 3 (pc' := 106) (ls' := [.ref 74, .int 0, .int (nI k2), .int 1, .int (nI k4), .int (nI k5), .int 0]) (st' := [.int 0]) rfl ?_
                    refine wp_if_t rfl (show (0 : Int32) = 0 from by decide) ?_
                    refine wp_run 1 (pc' := 115) (ls' := [.ref 74, .int 0, .int (nI k2), .int 1, .int (nI k4), .int (nI k5), .int 0]) (st' := [.int (-1000000001)]) rfl ?_
                    refine wp_ret rfl ?_
                    show am_wp L xs _ _ _ _ 11 [.ref 74, .int 0, .int (nI k2), .int 1, .int (nI k4), .int (nI k5), am_du, am_du, am_du] [.int (-1000000001)] (am_S b) (am_u h 73 1 (h 73 1 + 1)) _
                    refine wp_run 2 (pc' := 15) (ls' := [.ref 74, .int 0, .int (nI k2), .int 1, .int (nI k4), .int (nI k5), .int (-1000000001), am_du, am_du]) (st' := [.int (-1000000001)]) rfl ?_
                    refine wp_if_f rfl (show ¬ (((-1000000001) : Int32) = 0) from by decide) ?_
                    refine wp_run 2 (pc' := 21) (ls' := [.ref 74, .int 0, .int (nI k2), .int 1, .int (nI k4), .int (nI k5), .int (-1000000001), am_du, am_du]) (st' := [.int (-1000000001), .ref 74]) rfl ?_
                    refine wp_callV (o := 74) (as := [.int (-1000000001)]) (rest := []) (els := [.ref 74, .int (-1000000001)]) rfl rfl rfl rfl rfl rfl rfl rfl (by omega) ?_
                    refine sp_error1 ?_
                    show am_wp L xs _ _ _ _ 24 [.ref 74, .int 0, .int (nI k2), .int 1, .int (nI k4), .int (nI k5), .int (-1000000001), am_du, am_du] [.int (-1000000001)] (am_S b) (am_u (am_u h 73 1 (h 73 1 + 1)) 77 1 ((am_u h 73 1 (h 73 1 + 1)) 77 1 + 1)) _
                    refine wp_ret rfl ?_
                    exact kk2 _ _ (re_err1 hR)
          · skip
            refine wp_run 2 (pc' := 73) (ls' := [.ref 0, .int 0, .int x2, .int 1, .int x4, .int x5, .ref 65, .ref 67]) (st' := [.int 5, .ref 0]) rfl ?_
            refine wp_callV (o := 0) (as := [.int 5]) (rest := []) (els := [.ref 0, .int 5]) rfl rfl rfl rfl rfl rfl rfl rfl (by omega) ?_
            refine sp_refuse5 (by omega) ?_
            show am_wp L xs _ _ _ _ 76 [.ref 0, .int 0, .int x2, .int 1, .int x4, .int x5, .ref 65, .ref 67] [.int (-1000000005)] (am_S b) (am_u h 73 5 (h 73 5 + 1)) _
            refine wp_ret rfl ?_
            refine kk _ _ _ (fun ms2 Q2 kk2 => ?_)
            refine wp_run 6 (pc' := 8) (ls' := [.ref 74, .int 0, .int x2, .int 1, .int x4, .int x5, am_du, am_du, am_du]) (st' := [.int x5, .int x4, .int 1, .int x2, .int 0, .ref 74]) rfl ?_
            refine wp_callV (o := 74) (as := [.int 0, .int x2, .int 1, .int x4, .int x5]) (rest := []) (els := [.ref 74, .int 0, .int x2, .int 1, .int x4, .int x5, am_du]) rfl rfl rfl rfl rfl rfl rfl rfl (by omega) ?_
            refine wp_run 1 (pc' := 1) (ls' := [.ref 74, .int 0, .int x2, .int 1, .int x4, .int x5, am_du]) (st' := [.int 0]) rfl ?_
            refine wp_callS (as := [.int 0]) (rest := []) (els := [.int 0]) rfl rfl rfl rfl rfl rfl rfl rfl (by omega) ?_
            refine sp_m_isSheet (by omega) (fun _ _ _ => ?_) (fun q => absurd rfl (q 0 (by omega)))
            show am_wp L xs _ _ _ _ 4 [.ref 74, .int 0, .int x2, .int 1, .int x4, .int x5, am_du] [.int 1] (am_S b) (am_u h 73 5 (h 73 5 + 1)) _
            refine wp_if_f rfl (show ¬ ((1 : Int32) = 0) from by decide) ?_
            refine wp_run 1 (pc' := 8) (ls' := [.ref 74, .int 0, .int x2, .int 1, .int x4, .int x5, am_du]) (st' := [.int 1]) rfl ?_
            refine wp_callS (as := [.int 1]) (rest := []) (els := [.int 1]) rfl rfl rfl rfl rfl rfl rfl rfl (by omega) ?_
            refine sp_m_isSheet (by omega) (fun _ _ _ => ?_) (fun q => absurd rfl (q 1 (by omega)))
            show am_wp L xs _ _ _ _ 11 [.ref 74, .int 0, .int x2, .int 1, .int x4, .int x5, am_du] [.int 1] (am_S b) (am_u h 73 5 (h 73 5 + 1)) _
            refine wp_if_t rfl (show ¬ (1 : Int32) = 0 from by decide) ?_
            refine wp_run 1 (pc' := 18) (ls' := [.ref 74, .int 0, .int x2, .int 1, .int x4, .int x5, am_du]) (st' := [.ref 74]) rfl ?_
            refine wp_getr 78 rfl rfl rfl ?_
            refine wp_run 1 (pc' := 22) (ls' := [.ref 74, .int 0, .int x2, .int 1, .int x4, .int x5, am_du]) (st' := [.int 0, .ref 78]) rfl ?_
            refine wp_ald (i := 0) (h 78 0) rfl rfl rfl rfl (by decide) rfl ?_
            refine wp_if_f rfl (show ¬ ((h 78 0) = 0) from (fun q => cqz0 (hob.trans q))) ?_
            refine wp_run 1 (pc' := 27) (ls' := [.ref 74, .int 0, .int x2, .int 1, .int x4, .int x5, am_du]) (st' := [.ref 74]) rfl ?_
            refine wp_getr 78 rfl rfl rfl ?_
            refine wp_run 1 (pc' := 31) (ls' := [.ref 74, .int 0, .int x2, .int 1, .int x4, .int x5, am_du]) (st' := [.int 1, .ref 78]) rfl ?_
            refine wp_ald (i := 1) (h 78 1) rfl rfl rfl rfl (by decide) rfl ?_
            refine wp_if_t rfl (show ¬ (h 78 1) = 0 from (fun q => cqz1 (hobB.trans q))) ?_
            refine wp_run 1 (pc' := 39) (ls' := [.ref 74, .int 0, .int x2, .int 1, .int x4, .int x5, am_du]) (st' := [.ref 74]) rfl ?_
            refine wp_getr 78 rfl rfl rfl ?_
            refine wp_run 1 (pc' := 43) (ls' := [.ref 74, .int 0, .int x2, .int 1, .int x4, .int x5, am_du]) (st' := [.int 0, .ref 78]) rfl ?_
            refine wp_ald (i := 0) (h 78 0) rfl rfl rfl rfl (by decide) rfl ?_
            refine wp_run 1 (pc' := 45) (ls' := [.ref 74, .int 0, .int x2, .int 1, .int x4, .int x5, am_du]) (st' := [.ref 74, .int (h 78 0)]) rfl ?_
            refine wp_getr 78 rfl rfl rfl ?_
            refine wp_run 1 (pc' := 49) (ls' := [.ref 74, .int 0, .int x2, .int 1, .int x4, .int x5, am_du]) (st' := [.int 1, .ref 78, .int (h 78 0)]) rfl ?_
            refine wp_ald (i := 1) (h 78 1) rfl rfl rfl rfl (by decide) rfl ?_
            refine wp_icmp_f rfl (show ¬ ((h 78 0) = (h 78 1)) from (fun q => cqe (hob.trans (q.trans hobB.symm)))) ?_
            refine wp_run 1 (pc' := 55) (ls' := [.ref 74, .int 0, .int x2, .int 1, .int x4, .int x5, am_du]) (st' := [.int (-1000000005)]) rfl ?_
            refine wp_ret rfl ?_
            show am_wp L xs _ _ _ _ 11 [.ref 74, .int 0, .int x2, .int 1, .int x4, .int x5, am_du, am_du, am_du] [.int (-1000000005)] (am_S b) (am_u h 73 5 (h 73 5 + 1)) _
            refine wp_run 2 (pc' := 15) (ls' := [.ref 74, .int 0, .int x2, .int 1, .int x4, .int x5, .int (-1000000005), am_du, am_du]) (st' := [.int (-1000000005)]) rfl ?_
            refine wp_if_f rfl (show ¬ (((-1000000005) : Int32) = 0) from by decide) ?_
            refine wp_run 2 (pc' := 21) (ls' := [.ref 74, .int 0, .int x2, .int 1, .int x4, .int x5, .int (-1000000005), am_du, am_du]) (st' := [.int (-1000000005), .ref 74]) rfl ?_
            refine wp_callV (o := 74) (as := [.int (-1000000005)]) (rest := []) (els := [.ref 74, .int (-1000000005)]) rfl rfl rfl rfl rfl rfl rfl rfl (by omega) ?_
            refine sp_error5 ?_
            show am_wp L xs _ _ _ _ 24 [.ref 74, .int 0, .int x2, .int 1, .int x4, .int x5, .int (-1000000005), am_du, am_du] [.int (-1000000005)] (am_S b) (am_u (am_u h 73 5 (h 73 5 + 1)) 77 5 ((am_u h 73 5 (h 73 5 + 1)) 77 5 + 1)) _
            refine wp_ret rfl ?_
            exact kk2 _ _ (re_err5 hR)
        · skip
          replace cqz1 := Decidable.not_not.mp cqz1
          refine wp_run 2 (pc' := 12) (ls' := [.ref 67]) (st' := [.int 1]) rfl ?_
          refine wp_retz rfl (Or.inr rfl) ?_
          show am_wp L xs _ _ _ _ 49 [.ref 0, .int 0, .int x2, .int 1, .int x4, .int x5, .ref 65, .ref 67] [.int 1] (am_S b) h _
          refine wp_if_f rfl (show ¬ ((1 : Int32) = 0) from by decide) ?_
          refine wp_run 2 (pc' := 54) (ls' := [.ref 0, .int 0, .int x2, .int 1, .int x4, .int x5, .ref 65, .ref 67]) (st' := [.int 2, .ref 0]) rfl ?_
          refine wp_callV (o := 0) (as := [.int 2]) (rest := []) (els := [.ref 0, .int 2]) rfl rfl rfl rfl rfl rfl rfl rfl (by omega) ?_
          refine sp_refuse2 (by omega) ?_
          show am_wp L xs _ _ _ _ 57 [.ref 0, .int 0, .int x2, .int 1, .int x4, .int x5, .ref 65, .ref 67] [.int (-1000000002)] (am_S b) (am_u h 73 2 (h 73 2 + 1)) _
          refine wp_ret rfl ?_
          refine kk _ _ _ (fun ms2 Q2 kk2 => ?_)
          refine wp_run 6 (pc' := 8) (ls' := [.ref 74, .int 0, .int x2, .int 1, .int x4, .int x5, am_du, am_du, am_du]) (st' := [.int x5, .int x4, .int 1, .int x2, .int 0, .ref 74]) rfl ?_
          refine wp_callV (o := 74) (as := [.int 0, .int x2, .int 1, .int x4, .int x5]) (rest := []) (els := [.ref 74, .int 0, .int x2, .int 1, .int x4, .int x5, am_du]) rfl rfl rfl rfl rfl rfl rfl rfl (by omega) ?_
          refine wp_run 1 (pc' := 1) (ls' := [.ref 74, .int 0, .int x2, .int 1, .int x4, .int x5, am_du]) (st' := [.int 0]) rfl ?_
          refine wp_callS (as := [.int 0]) (rest := []) (els := [.int 0]) rfl rfl rfl rfl rfl rfl rfl rfl (by omega) ?_
          refine sp_m_isSheet (by omega) (fun _ _ _ => ?_) (fun q => absurd rfl (q 0 (by omega)))
          show am_wp L xs _ _ _ _ 4 [.ref 74, .int 0, .int x2, .int 1, .int x4, .int x5, am_du] [.int 1] (am_S b) (am_u h 73 2 (h 73 2 + 1)) _
          refine wp_if_f rfl (show ¬ ((1 : Int32) = 0) from by decide) ?_
          refine wp_run 1 (pc' := 8) (ls' := [.ref 74, .int 0, .int x2, .int 1, .int x4, .int x5, am_du]) (st' := [.int 1]) rfl ?_
          refine wp_callS (as := [.int 1]) (rest := []) (els := [.int 1]) rfl rfl rfl rfl rfl rfl rfl rfl (by omega) ?_
          refine sp_m_isSheet (by omega) (fun _ _ _ => ?_) (fun q => absurd rfl (q 1 (by omega)))
          show am_wp L xs _ _ _ _ 11 [.ref 74, .int 0, .int x2, .int 1, .int x4, .int x5, am_du] [.int 1] (am_S b) (am_u h 73 2 (h 73 2 + 1)) _
          refine wp_if_t rfl (show ¬ (1 : Int32) = 0 from by decide) ?_
          refine wp_run 1 (pc' := 18) (ls' := [.ref 74, .int 0, .int x2, .int 1, .int x4, .int x5, am_du]) (st' := [.ref 74]) rfl ?_
          refine wp_getr 78 rfl rfl rfl ?_
          refine wp_run 1 (pc' := 22) (ls' := [.ref 74, .int 0, .int x2, .int 1, .int x4, .int x5, am_du]) (st' := [.int 0, .ref 78]) rfl ?_
          refine wp_ald (i := 0) (h 78 0) rfl rfl rfl rfl (by decide) rfl ?_
          refine wp_if_f rfl (show ¬ ((h 78 0) = 0) from (fun q => cqz0 (hob.trans q))) ?_
          refine wp_run 1 (pc' := 27) (ls' := [.ref 74, .int 0, .int x2, .int 1, .int x4, .int x5, am_du]) (st' := [.ref 74]) rfl ?_
          refine wp_getr 78 rfl rfl rfl ?_
          refine wp_run 1 (pc' := 31) (ls' := [.ref 74, .int 0, .int x2, .int 1, .int x4, .int x5, am_du]) (st' := [.int 1, .ref 78]) rfl ?_
          refine wp_ald (i := 1) (h 78 1) rfl rfl rfl rfl (by decide) rfl ?_
          refine wp_if_f rfl (show ¬ (¬ (h 78 1) = 0) from (fun q => q (hobB.symm.trans cqz1))) ?_
          refine wp_run 1 (pc' := 37) (ls' := [.ref 74, .int 0, .int x2, .int 1, .int x4, .int x5, am_du]) (st' := [.int (-1000000002)]) rfl ?_
          refine wp_ret rfl ?_
          show am_wp L xs _ _ _ _ 11 [.ref 74, .int 0, .int x2, .int 1, .int x4, .int x5, am_du, am_du, am_du] [.int (-1000000002)] (am_S b) (am_u h 73 2 (h 73 2 + 1)) _
          refine wp_run 2 (pc' := 15) (ls' := [.ref 74, .int 0, .int x2, .int 1, .int x4, .int x5, .int (-1000000002), am_du, am_du]) (st' := [.int (-1000000002)]) rfl ?_
          refine wp_if_f rfl (show ¬ (((-1000000002) : Int32) = 0) from by decide) ?_
          refine wp_run 2 (pc' := 21) (ls' := [.ref 74, .int 0, .int x2, .int 1, .int x4, .int x5, .int (-1000000002), am_du, am_du]) (st' := [.int (-1000000002), .ref 74]) rfl ?_
          refine wp_callV (o := 74) (as := [.int (-1000000002)]) (rest := []) (els := [.ref 74, .int (-1000000002)]) rfl rfl rfl rfl rfl rfl rfl rfl (by omega) ?_
          refine sp_error2 ?_
          show am_wp L xs _ _ _ _ 24 [.ref 74, .int 0, .int x2, .int 1, .int x4, .int x5, .int (-1000000002), am_du, am_du] [.int (-1000000002)] (am_S b) (am_u (am_u h 73 2 (h 73 2 + 1)) 77 2 ((am_u h 73 2 (h 73 2 + 1)) 77 2 + 1)) _
          refine wp_ret rfl ?_
          exact kk2 _ _ (re_err2 hR)
      · skip
        replace cqz0 := Decidable.not_not.mp cqz0
        refine wp_run 2 (pc' := 12) (ls' := [.ref 65]) (st' := [.int 1]) rfl ?_
        refine wp_retz rfl (Or.inr rfl) ?_
        show am_wp L xs _ _ _ _ 41 [.ref 0, .int 0, .int x2, .int 1, .int x4, .int x5, .ref 65, .ref 67] [.int 1] (am_S b) h _
        refine wp_if_t rfl (show ¬ (1 : Int32) = 0 from by decide) ?_
        refine wp_run 2 (pc' := 54) (ls' := [.ref 0, .int 0, .int x2, .int 1, .int x4, .int x5, .ref 65, .ref 67]) (st' := [.int 2, .ref 0]) rfl ?_
        refine wp_callV (o := 0) (as := [.int 2]) (rest := []) (els := [.ref 0, .int 2]) rfl rfl rfl rfl rfl rfl rfl rfl (by omega) ?_
        refine sp_refuse2 (by omega) ?_
        show am_wp L xs _ _ _ _ 57 [.ref 0, .int 0, .int x2, .int 1, .int x4, .int x5, .ref 65, .ref 67] [.int (-1000000002)] (am_S b) (am_u h 73 2 (h 73 2 + 1)) _
        refine wp_ret rfl ?_
        refine kk _ _ _ (fun ms2 Q2 kk2 => ?_)
        refine wp_run 6 (pc' := 8) (ls' := [.ref 74, .int 0, .int x2, .int 1, .int x4, .int x5, am_du, am_du, am_du]) (st' := [.int x5, .int x4, .int 1, .int x2, .int 0, .ref 74]) rfl ?_
        refine wp_callV (o := 74) (as := [.int 0, .int x2, .int 1, .int x4, .int x5]) (rest := []) (els := [.ref 74, .int 0, .int x2, .int 1, .int x4, .int x5, am_du]) rfl rfl rfl rfl rfl rfl rfl rfl (by omega) ?_
        refine wp_run 1 (pc' := 1) (ls' := [.ref 74, .int 0, .int x2, .int 1, .int x4, .int x5, am_du]) (st' := [.int 0]) rfl ?_
        refine wp_callS (as := [.int 0]) (rest := []) (els := [.int 0]) rfl rfl rfl rfl rfl rfl rfl rfl (by omega) ?_
        refine sp_m_isSheet (by omega) (fun _ _ _ => ?_) (fun q => absurd rfl (q 0 (by omega)))
        show am_wp L xs _ _ _ _ 4 [.ref 74, .int 0, .int x2, .int 1, .int x4, .int x5, am_du] [.int 1] (am_S b) (am_u h 73 2 (h 73 2 + 1)) _
        refine wp_if_f rfl (show ¬ ((1 : Int32) = 0) from by decide) ?_
        refine wp_run 1 (pc' := 8) (ls' := [.ref 74, .int 0, .int x2, .int 1, .int x4, .int x5, am_du]) (st' := [.int 1]) rfl ?_
        refine wp_callS (as := [.int 1]) (rest := []) (els := [.int 1]) rfl rfl rfl rfl rfl rfl rfl rfl (by omega) ?_
        refine sp_m_isSheet (by omega) (fun _ _ _ => ?_) (fun q => absurd rfl (q 1 (by omega)))
        show am_wp L xs _ _ _ _ 11 [.ref 74, .int 0, .int x2, .int 1, .int x4, .int x5, am_du] [.int 1] (am_S b) (am_u h 73 2 (h 73 2 + 1)) _
        refine wp_if_t rfl (show ¬ (1 : Int32) = 0 from by decide) ?_
        refine wp_run 1 (pc' := 18) (ls' := [.ref 74, .int 0, .int x2, .int 1, .int x4, .int x5, am_du]) (st' := [.ref 74]) rfl ?_
        refine wp_getr 78 rfl rfl rfl ?_
        refine wp_run 1 (pc' := 22) (ls' := [.ref 74, .int 0, .int x2, .int 1, .int x4, .int x5, am_du]) (st' := [.int 0, .ref 78]) rfl ?_
        refine wp_ald (i := 0) (h 78 0) rfl rfl rfl rfl (by decide) rfl ?_
        refine wp_if_t rfl (show (h 78 0) = 0 from (hob.symm.trans cqz0)) ?_
        refine wp_run 1 (pc' := 37) (ls' := [.ref 74, .int 0, .int x2, .int 1, .int x4, .int x5, am_du]) (st' := [.int (-1000000002)]) rfl ?_
        refine wp_ret rfl ?_
        show am_wp L xs _ _ _ _ 11 [.ref 74, .int 0, .int x2, .int 1, .int x4, .int x5, am_du, am_du, am_du] [.int (-1000000002)] (am_S b) (am_u h 73 2 (h 73 2 + 1)) _
        refine wp_run 2 (pc' := 15) (ls' := [.ref 74, .int 0, .int x2, .int 1, .int x4, .int x5, .int (-1000000002), am_du, am_du]) (st' := [.int (-1000000002)]) rfl ?_
        refine wp_if_f rfl (show ¬ (((-1000000002) : Int32) = 0) from by decide) ?_
        refine wp_run 2 (pc' := 21) (ls' := [.ref 74, .int 0, .int x2, .int 1, .int x4, .int x5, .int (-1000000002), am_du, am_du]) (st' := [.int (-1000000002), .ref 74]) rfl ?_
        refine wp_callV (o := 74) (as := [.int (-1000000002)]) (rest := []) (els := [.ref 74, .int (-1000000002)]) rfl rfl rfl rfl rfl rfl rfl rfl (by omega) ?_
        refine sp_error2 ?_
        show am_wp L xs _ _ _ _ 24 [.ref 74, .int 0, .int x2, .int 1, .int x4, .int x5, .int (-1000000002), am_du, am_du] [.int (-1000000002)] (am_S b) (am_u (am_u h 73 2 (h 73 2 + 1)) 77 2 ((am_u h 73 2 (h 73 2 + 1)) 77 2 + 1)) _
        refine wp_ret rfl ?_
        exact kk2 _ _ (re_err2 hR)
    · skip
      intro ex3
      subst ex3
      show am_wp L xs _ _ _ _ 11 [.ref 0, .int 0, .int x2, .int 2, .int x4, .int x5, am_du, am_du] [.int 1] (am_S b) h _
      refine wp_if_t rfl (show ¬ (1 : Int32) = 0 from by decide) ?_
      obtain ⟨l, hl24, ho2, hz2, hob, hbb, hri⟩ := id hS0
      obtain ⟨lB, hl24B, ho2B, hz2B, hobB, hbbB, hriB⟩ := id hS2
      refine wp_run 1 (pc' := 21) (ls' := [.ref 0, .int 0, .int x2, .int 2, .int x4, .int x5, am_du, am_du]) (st' := [.ref 0]) rfl ?_
      refine wp_getr 64 rfl rfl rfl ?_
      refine wp_run 1 (pc' := 25) (ls' := [.ref 0, .int 0, .int x2, .int 2, .int x4, .int x5, am_du, am_du]) (st' := [.int 0, .ref 64]) rfl ?_
      refine wp_aald (r := 65) rfl rfl (Or.inr rfl) rfl (by decide) rfl rfl ?_
      refine wp_run 2 (pc' := 29) (ls' := [.ref 0, .int 0, .int x2, .int 2, .int x4, .int x5, .ref 65, am_du]) (st' := [.ref 0]) rfl ?_
      refine wp_getr 64 rfl rfl rfl ?_
      refine wp_run 1 (pc' := 33) (ls' := [.ref 0, .int 0, .int x2, .int 2, .int x4, .int x5, .ref 65, am_du]) (st' := [.int 2, .ref 64]) rfl ?_
      refine wp_aald (r := 69) rfl rfl (Or.inr rfl) rfl (by decide) rfl rfl ?_
      refine wp_run 2 (pc' := 38) (ls' := [.ref 0, .int 0, .int x2, .int 2, .int x4, .int x5, .ref 65, .ref 69]) (st' := [.ref 65]) rfl ?_
      refine wp_callV (o := 65) (as := []) (rest := []) (els := [.ref 65]) rfl rfl rfl rfl rfl rfl rfl rfl (by omega) ?_
      refine wp_run 1 (pc' := 1) (ls' := [.ref 65]) (st' := [.ref 65]) rfl ?_
      refine wp_geti (a := 1) (h 65 1) rfl rfl rfl rfl ?_
      refine wp_if rfl (fun (cqz0 : ¬ (h 65 1) = 0) => ?_) (fun (cqz0 : ¬ (¬ (h 65 1) = 0)) => ?_)
      · skip
        refine wp_run 1 (pc' := 12) (ls' := [.ref 65]) (st' := [.int 0]) rfl ?_
        refine wp_retz rfl (Or.inl rfl) ?_
        show am_wp L xs _ _ _ _ 41 [.ref 0, .int 0, .int x2, .int 2, .int x4, .int x5, .ref 65, .ref 69] [.int 0] (am_S b) h _
        refine wp_if_f rfl (show ¬ (¬ (0 : Int32) = 0) from by decide) ?_
        refine wp_run 1 (pc' := 46) (ls' := [.ref 0, .int 0, .int x2, .int 2, .int x4, .int x5, .ref 65, .ref 69]) (st' := [.ref 69]) rfl ?_
        refine wp_callV (o := 69) (as := []) (rest := []) (els := [.ref 69]) rfl rfl rfl rfl rfl rfl rfl rfl (by omega) ?_
        refine wp_run 1 (pc' := 1) (ls' := [.ref 69]) (st' := [.ref 69]) rfl ?_
        refine wp_geti (a := 1) (h 69 1) rfl rfl rfl rfl ?_
        refine wp_if rfl (fun (cqz1 : ¬ (h 69 1) = 0) => ?_) (fun (cqz1 : ¬ (¬ (h 69 1) = 0)) => ?_)
        · skip
          refine wp_run 1 (pc' := 12) (ls' := [.ref 69]) (st' := [.int 0]) rfl ?_
          refine wp_retz rfl (Or.inl rfl) ?_
          show am_wp L xs _ _ _ _ 49 [.ref 0, .int 0, .int x2, .int 2, .int x4, .int x5, .ref 65, .ref 69] [.int 0] (am_S b) h _
          refine wp_if_t rfl (show (0 : Int32) = 0 from by decide) ?_
          refine wp_run 1 (pc' := 60) (ls' := [.ref 0, .int 0, .int x2, .int 2, .int x4, .int x5, .ref 65, .ref 69]) (st' := [.ref 65]) rfl ?_
          refine wp_geti (a := 1) (h 65 1) rfl rfl rfl rfl ?_
          refine wp_run 1 (pc' := 65) (ls' := [.ref 0, .int 0, .int x2, .int 2, .int x4, .int x5, .ref 65, .ref 69]) (st' := [.ref 69, .int (h 65 1)]) rfl ?_
          refine wp_geti (a := 1) (h 69 1) rfl rfl rfl rfl ?_
          refine wp_icmp rfl (fun (cqe : (h 65 1) = (h 69 1)) => ?_) (fun (cqe : ¬ ((h 65 1) = (h 69 1))) => ?_)
          · skip
            refine wp_run 3 (pc' := 82) (ls' := [.ref 0, .int 0, .int x2, .int 2, .int x4, .int x5, .ref 65, .ref 69]) (st' := [.int x5, .int x2, .ref 65]) rfl ?_
            refine wp_callV (o := 65) (as := [.int x2, .int x5]) (rest := []) (els := [.ref 65, .int x2, .int x5]) rfl rfl rfl rfl rfl rfl rfl rfl (by omega) ?_
            refine sp_holds (h := h) (o := 65) (l := l) rfl ho2 hl24 (by omega) ?_ ?_
            · skip
              intro k2 k5 e5 e2 hle1
              subst e5
              subst e2
              show am_wp L xs _ _ _ _ 85 [.ref 0, .int 0, .int (nI k2), .int 2, .int x4, .int (nI k5), .ref 65, .ref 69] [.int 1] (am_S b) h _
              refine wp_if_f rfl (show ¬ ((1 : Int32) = 0) from by decide) ?_
              refine wp_run 3 (pc' := 94) (ls' := [.ref 0, .int 0, .int (nI k2), .int 2, .int x4, .int (nI k5), .ref 65, .ref 69]) (st' := [.int (nI k5), .int x4, .ref 69]) rfl ?_
              refine wp_callV (o := 69) (as := [.int x4, .int (nI k5)]) (rest := []) (els := [.ref 69, .int x4, .int (nI k5)]) rfl rfl rfl rfl rfl rfl rfl rfl (by omega) ?_
              refine sp_holds (h := h) (o := 69) (l := lB) rfl ho2B hl24B (by omega) ?_ ?_
              · skip
                intro k4 n4 q1 e4 hle2
                have en := pu_inj (by omega) (by omega) q1
                subst en
                subst e4
                show am_wp L xs _ _ _ _ 97 [.ref 0, .int 0, .int (nI k2), .int 2, .int (nI k4), .int (nI k5), .ref 65, .ref 69] [.int 1] (am_S b) h _
                refine wp_if_t rfl (show ¬ (1 : Int32) = 0 from by decide) ?_
                refine wp_run 1 (pc' := 108) (ls' := [.ref 0, .int 0, .int (nI k2), .int 2, .int (nI k4), .int (nI k5), .ref 65, .ref 69]) (st' := [.ref 65]) rfl ?_
                refine wp_getr 66 rfl rfl rfl ?_
                refine wp_run 2 (pc' := 114) (ls' := [.ref 0, .int 0, .int (nI k2), .int 2, .int (nI k4), .int (nI k5), .ref 65, .ref 69]) (st' := [.ref 69, .int (nI k2), .ref 66]) rfl ?_
                refine wp_getr 70 rfl rfl rfl ?_
                refine wp_run 2 (pc' := 121) (ls' := [.ref 0, .int 0, .int (nI k2), .int 2, .int (nI k4), .int (nI k5), .ref 65, .ref 69]) (st' := [.int (nI k5), .int (nI k4), .ref 70, .int (nI k2), .ref 66]) rfl ?_
                refine wp_copy (q := 66) (o := 70) (sp := k2) (dp := k4) (n := k5) rfl rfl rfl rfl rfl rfl (by omega) (by omega) (by omega) (by omega) rfl (by omega) ?_
                refine wp_run 1 (pc' := 126) (ls' := [.ref 0, .int 0, .int (nI k2), .int 2, .int (nI k4), .int (nI k5), .ref 65, .ref 69]) (st' := [.int (nI k5)]) rfl ?_
                refine wp_ret rfl ?_
                refine kk _ _ _ (fun ms2 Q2 kk2 => ?_)
                refine wp_run 6 (pc' := 8) (ls' := [.ref 74, .int 0, .int (nI k2), .int 2, .int (nI k4), .int (nI k5), am_du, am_du, am_du]) (st' := [.int (nI k5), .int (nI k4), .int 2, .int (nI k2), .int 0, .ref 74]) rfl ?_
                refine wp_callV (o := 74) (as := [.int 0, .int (nI k2), .int 2, .int (nI k4), .int (nI k5)]) (rest := []) (els := [.ref 74, .int 0, .int (nI k2), .int 2, .int (nI k4), .int (nI k5), am_du]) rfl rfl rfl rfl rfl rfl rfl rfl (by omega) ?_
                refine wp_run 1 (pc' := 1) (ls' := [.ref 74, .int 0, .int (nI k2), .int 2, .int (nI k4), .int (nI k5), am_du]) (st' := [.int 0]) rfl ?_
                refine wp_callS (as := [.int 0]) (rest := []) (els := [.int 0]) rfl rfl rfl rfl rfl rfl rfl rfl (by omega) ?_
                refine sp_m_isSheet (by omega) (fun _ _ _ => ?_) (fun q => absurd rfl (q 0 (by omega)))
                show am_wp L xs _ _ _ _ 4 [.ref 74, .int 0, .int (nI k2), .int 2, .int (nI k4), .int (nI k5), am_du] [.int 1] (am_S b) (am_ur h 70 (va_cpy (h 66) (h 70) k2 k4 k5)) _
                refine wp_if_f rfl (show ¬ ((1 : Int32) = 0) from by decide) ?_
                refine wp_run 1 (pc' := 8) (ls' := [.ref 74, .int 0, .int (nI k2), .int 2, .int (nI k4), .int (nI k5), am_du]) (st' := [.int 2]) rfl ?_
                refine wp_callS (as := [.int 2]) (rest := []) (els := [.int 2]) rfl rfl rfl rfl rfl rfl rfl rfl (by omega) ?_
                refine sp_m_isSheet (by omega) (fun _ _ _ => ?_) (fun q => absurd rfl (q 2 (by omega)))
                show am_wp L xs _ _ _ _ 11 [.ref 74, .int 0, .int (nI k2), .int 2, .int (nI k4), .int (nI k5), am_du] [.int 1] (am_S b) (am_ur h 70 (va_cpy (h 66) (h 70) k2 k4 k5)) _
                refine wp_if_t rfl (show ¬ (1 : Int32) = 0 from by decide) ?_
                refine wp_run 1 (pc' := 18) (ls' := [.ref 74, .int 0, .int (nI k2), .int 2, .int (nI k4), .int (nI k5), am_du]) (st' := [.ref 74]) rfl ?_
                refine wp_getr 78 rfl rfl rfl ?_
                refine wp_run 1 (pc' := 22) (ls' := [.ref 74, .int 0, .int (nI k2), .int 2, .int (nI k4), .int (nI k5), am_du]) (st' := [.int 0, .ref 78]) rfl ?_
                refine wp_ald (i := 0) (h 78 0) rfl rfl rfl rfl (by decide) rfl ?_
                refine wp_if_f rfl (show ¬ ((h 78 0) = 0) from (fun q => cqz0 (hob.trans q))) ?_
                refine wp_run 1 (pc' := 27) (ls' := [.ref 74, .int 0, .int (nI k2), .int 2, .int (nI k4), .int (nI k5), am_du]) (st' := [.ref 74]) rfl ?_
                refine wp_getr 78 rfl rfl rfl ?_
                refine wp_run 1 (pc' := 31) (ls' := [.ref 74, .int 0, .int (nI k2), .int 2, .int (nI k4), .int (nI k5), am_du]) (st' := [.int 2, .ref 78]) rfl ?_
                refine wp_ald (i := 2) (h 78 2) rfl rfl rfl rfl (by decide) rfl ?_
                refine wp_if_t rfl (show ¬ (h 78 2) = 0 from (fun q => cqz1 (hobB.trans q))) ?_
                refine wp_run 1 (pc' := 39) (ls' := [.ref 74, .int 0, .int (nI k2), .int 2, .int (nI k4), .int (nI k5), am_du]) (st' := [.ref 74]) rfl ?_
                refine wp_getr 78 rfl rfl rfl ?_
                refine wp_run 1 (pc' := 43) (ls' := [.ref 74, .int 0, .int (nI k2), .int 2, .int (nI k4), .int (nI k5), am_du]) (st' := [.int 0, .ref 78]) rfl ?_
                refine wp_ald (i := 0) (h 78 0) rfl rfl rfl rfl (by decide) rfl ?_
                refine wp_run 1 (pc' := 45) (ls' := [.ref 74, .int 0, .int (nI k2), .int 2, .int (nI k4), .int (nI k5), am_du]) (st' := [.ref 74, .int (h 78 0)]) rfl ?_
                refine wp_getr 78 rfl rfl rfl ?_
                refine wp_run 1 (pc' := 49) (ls' := [.ref 74, .int 0, .int (nI k2), .int 2, .int (nI k4), .int (nI k5), am_du]) (st' := [.int 2, .ref 78, .int (h 78 0)]) rfl ?_
                refine wp_ald (i := 2) (h 78 2) rfl rfl rfl rfl (by decide) rfl ?_
                refine wp_icmp_t rfl (show (h 78 0) = (h 78 2) from (hob.symm.trans (cqe.trans hobB))) ?_
                refine wp_run 1 (pc' := 58) (ls' := [.ref 74, .int 0, .int (nI k2), .int 2, .int (nI k4), .int (nI k5), am_du]) (st' := [.int (nI k5)]) rfl ?_
                refine wp_if_f rfl (show ¬ ((nI k5) < 0) from mt (nI_ltI (a := k5) (b := 0) (by omega) (by omega)).mp (by omega)) ?_
                refine wp_run 1 (pc' := 62) (ls' := [.ref 74, .int 0, .int (nI k2), .int 2, .int (nI k4), .int (nI k5), am_du]) (st' := [.int (nI k2)]) rfl ?_
                refine wp_if_f rfl (show ¬ ((nI k2) < 0) from mt (nI_ltI (a := k2) (b := 0) (by omega) (by omega)).mp (by omega)) ?_
                refine wp_run 1 (pc' := 67) (ls' := [.ref 74, .int 0, .int (nI k2), .int 2, .int (nI k4), .int (nI k5), am_du]) (st' := [.int (nI k4)]) rfl ?_
                refine wp_if_f rfl (show ¬ ((nI k4) < 0) from mt (nI_ltI (a := k4) (b := 0) (by omega) (by omega)).mp (by omega)) ?_
                refine wp_run 2 (pc' := 73) (ls' := [.ref 74, .int 0, .int (nI k2), .int 2, .int (nI k4), .int (nI k5), am_du]) (st' := [.ref 74, .int (nI k5)]) rfl ?_
                refine wp_getr 79 rfl rfl rfl ?_
                refine wp_run 1 (pc' := 77) (ls' := [.ref 74, .int 0, .int (nI k2), .int 2, .int (nI k4), .int (nI k5), am_du]) (st' := [.int 0, .ref 79, .int (nI k5)]) rfl ?_
                refine wp_ald (i := 0) (nI l) hz2 rfl rfl rfl (by decide) rfl ?_
                refine wp_run 2 (pc' := 80) (ls' := [.ref 74, .int 0, .int (nI k2), .int 2, .int (nI k4), .int (nI k5), am_du]) (st' := [.int ((nI l) - (nI k2)), .int (nI k5)]) rfl ?_
                refine wp_icmp_f rfl (show ¬ (((nI l) - (nI k2)) < (nI k5)) from Int32.not_lt.mpr ((pu_suble (by omega) (by omega) hl24).mpr (by omega))) ?_
                refine wp_run 2 (pc' := 86) (ls' := [.ref 74, .int 0, .int (nI k2), .int 2, .int (nI k4), .int (nI k5), am_du]) (st' := [.ref 74, .int (nI k5)]) rfl ?_
                refine wp_getr 79 rfl rfl rfl ?_
                refine wp_run 1 (pc' := 90) (ls' := [.ref 74, .int 0, .int (nI k2), .int 2, .int (nI k4), .int (nI k5), am_du]) (st' := [.int 2, .ref 79, .int (nI k5)]) rfl ?_
                refine wp_ald (i := 2) (nI lB) hz2B rfl rfl rfl (by decide) rfl ?_
                refine wp_run 2 (pc' := 94) (ls' := [.ref 74, .int 0, .int (nI k2), .int 2, .int (nI k4), .int (nI k5), am_du]) (st' := [.int ((nI lB) - (nI k4)), .int (nI k5)]) rfl ?_
                refine wp_icmp_f rfl (show ¬ (((nI lB) - (nI k4)) < (nI k5)) from Int32.not_lt.mpr ((pu_suble (by omega) (by omega) hl24B).mpr (by omega))) ?_
                refine wp_run 4 (pc' := 106) (ls' := [.ref 74, .int 0, .int (nI k2), .int 2, .int (nI k4), .int (nI k5), .int 1]) (st' := [.int 1]) rfl ?_
                refine wp_if_f rfl (show ¬ ((1 : Int32) = 0) from by decide) ?_
                refine wp_run 2 (pc' := 115) (ls' := [.ref 74, .int 0, .int (nI k2), .int 2, .int (nI k4), .int (nI k5), .int 1]) (st' := [.int 0]) rfl ?_
                refine wp_ret rfl ?_
                show am_wp L xs _ _ _ _ 11 [.ref 74, .int 0, .int (nI k2), .int 2, .int (nI k4), .int (nI k5), am_du, am_du, am_du] [.int 0] (am_S b) (am_ur h 70 (va_cpy (h 66) (h 70) k2 k4 k5)) _
                refine wp_run 2 (pc' := 15) (ls' := [.ref 74, .int 0, .int (nI k2), .int 2, .int (nI k4), .int (nI k5), .int 0, am_du, am_du]) (st' := [.int 0]) rfl ?_
                refine wp_if_t rfl (show (0 : Int32) = 0 from by decide) ?_
                refine wp_run 2 (pc' := 28) (ls' := [.ref 74, .int 0, .int (nI k2), .int 2, .int (nI k4), .int (nI k5), .int 0, .int 0, am_du]) (st' := []) rfl ?_
                by_cases hij : k2 < k4
                · have hp := lp_mvd (L := L) (xs := xs) (d := d) (ms := ms2) (b := b) (h := (am_ur h 70 (va_cpy (h 66) (h 70) k2 k4 k5))) (Q := Q2) (s := 0) (o := 2) (i := k2) (j := k4) (n := k5) (by omega) (by omega) (by omega) (by omega) hij (by omega) ?_ k5 0 am_du (by omega)
                  · rw [mv_d0] at hp; exact hp
                  · exact kk2 _ _ ⟨⟨n, c, t, tp, wt, s0, s1, p0, p1, H⟩, re_im_s hI, hE, (re_sh_mo hS0 (by decide) (by omega)), (re_sh_mo hS1 (by decide) (by omega)), (re_sh_m hS0 hS2 (by omega) (by omega)), (re_sh_mo hS3 (by decide) (by omega)), hT⟩
                · have hp := lp_mva (L := L) (xs := xs) (d := d) (ms := ms2) (b := b) (h := (am_ur h 70 (va_cpy (h 66) (h 70) k2 k4 k5))) (Q := Q2) (s := 0) (o := 2) (i := k2) (j := k4) (n := k5) (by omega) (by omega) (by omega) (by omega) hij (by omega) ?_ k5 0 am_du (by omega)
                  · rw [mv_a0] at hp; exact hp
                  · exact kk2 _ _ ⟨⟨n, c, t, tp, wt, s0, s1, p0, p1, H⟩, re_im_s hI, hE, (re_sh_mo hS0 (by decide) (by omega)), (re_sh_mo hS1 (by decide) (by omega)), (re_sh_m hS0 hS2 (by omega) (by omega)), (re_sh_mo hS3 (by decide) (by omega)), hT⟩
              · skip
                intro hno2
                show am_wp L xs _ _ _ _ 97 [.ref 0, .int 0, .int (nI k2), .int 2, .int x4, .int (nI k5), .ref 65, .ref 69] [.int 0] (am_S b) h _
                refine wp_if_f rfl (show ¬ (¬ (0 : Int32) = 0) from by decide) ?_
                refine wp_run 2 (pc' := 102) (ls' := [.ref 0, .int 0, .int (nI k2), .int 2, .int x4, .int (nI k5), .ref 65, .ref 69]) (st' := [.int 1, .ref 0]) rfl ?_
                refine wp_callV (o := 0) (as := [.int 1]) (rest := []) (els := [.ref 0, .int 1]) rfl rfl rfl rfl rfl rfl rfl rfl (by omega) ?_
                refine sp_refuse1 (by omega) ?_
                show am_wp L xs _ _ _ _ 105 [.ref 0, .int 0, .int (nI k2), .int 2, .int x4, .int (nI k5), .ref 65, .ref 69] [.int (-1000000001)] (am_S b) (am_u h 73 1 (h 73 1 + 1)) _
                refine wp_ret rfl ?_
                refine kk _ _ _ (fun ms2 Q2 kk2 => ?_)
                refine wp_run 6 (pc' := 8) (ls' := [.ref 74, .int 0, .int (nI k2), .int 2, .int x4, .int (nI k5), am_du, am_du, am_du]) (st' := [.int (nI k5), .int x4, .int 2, .int (nI k2), .int 0, .ref 74]) rfl ?_
                refine wp_callV (o := 74) (as := [.int 0, .int (nI k2), .int 2, .int x4, .int (nI k5)]) (rest := []) (els := [.ref 74, .int 0, .int (nI k2), .int 2, .int x4, .int (nI k5), am_du]) rfl rfl rfl rfl rfl rfl rfl rfl (by omega) ?_
                refine wp_run 1 (pc' := 1) (ls' := [.ref 74, .int 0, .int (nI k2), .int 2, .int x4, .int (nI k5), am_du]) (st' := [.int 0]) rfl ?_
                refine wp_callS (as := [.int 0]) (rest := []) (els := [.int 0]) rfl rfl rfl rfl rfl rfl rfl rfl (by omega) ?_
                refine sp_m_isSheet (by omega) (fun _ _ _ => ?_) (fun q => absurd rfl (q 0 (by omega)))
                show am_wp L xs _ _ _ _ 4 [.ref 74, .int 0, .int (nI k2), .int 2, .int x4, .int (nI k5), am_du] [.int 1] (am_S b) (am_u h 73 1 (h 73 1 + 1)) _
                refine wp_if_f rfl (show ¬ ((1 : Int32) = 0) from by decide) ?_
                refine wp_run 1 (pc' := 8) (ls' := [.ref 74, .int 0, .int (nI k2), .int 2, .int x4, .int (nI k5), am_du]) (st' := [.int 2]) rfl ?_
                refine wp_callS (as := [.int 2]) (rest := []) (els := [.int 2]) rfl rfl rfl rfl rfl rfl rfl rfl (by omega) ?_
                refine sp_m_isSheet (by omega) (fun _ _ _ => ?_) (fun q => absurd rfl (q 2 (by omega)))
                show am_wp L xs _ _ _ _ 11 [.ref 74, .int 0, .int (nI k2), .int 2, .int x4, .int (nI k5), am_du] [.int 1] (am_S b) (am_u h 73 1 (h 73 1 + 1)) _
                refine wp_if_t rfl (show ¬ (1 : Int32) = 0 from by decide) ?_
                refine wp_run 1 (pc' := 18) (ls' := [.ref 74, .int 0, .int (nI k2), .int 2, .int x4, .int (nI k5), am_du]) (st' := [.ref 74]) rfl ?_
                refine wp_getr 78 rfl rfl rfl ?_
                refine wp_run 1 (pc' := 22) (ls' := [.ref 74, .int 0, .int (nI k2), .int 2, .int x4, .int (nI k5), am_du]) (st' := [.int 0, .ref 78]) rfl ?_
                refine wp_ald (i := 0) (h 78 0) rfl rfl rfl rfl (by decide) rfl ?_
                refine wp_if_f rfl (show ¬ ((h 78 0) = 0) from (fun q => cqz0 (hob.trans q))) ?_
                refine wp_run 1 (pc' := 27) (ls' := [.ref 74, .int 0, .int (nI k2), .int 2, .int x4, .int (nI k5), am_du]) (st' := [.ref 74]) rfl ?_
                refine wp_getr 78 rfl rfl rfl ?_
                refine wp_run 1 (pc' := 31) (ls' := [.ref 74, .int 0, .int (nI k2), .int 2, .int x4, .int (nI k5), am_du]) (st' := [.int 2, .ref 78]) rfl ?_
                refine wp_ald (i := 2) (h 78 2) rfl rfl rfl rfl (by decide) rfl ?_
                refine wp_if_t rfl (show ¬ (h 78 2) = 0 from (fun q => cqz1 (hobB.trans q))) ?_
                refine wp_run 1 (pc' := 39) (ls' := [.ref 74, .int 0, .int (nI k2), .int 2, .int x4, .int (nI k5), am_du]) (st' := [.ref 74]) rfl ?_
                refine wp_getr 78 rfl rfl rfl ?_
                refine wp_run 1 (pc' := 43) (ls' := [.ref 74, .int 0, .int (nI k2), .int 2, .int x4, .int (nI k5), am_du]) (st' := [.int 0, .ref 78]) rfl ?_
                refine wp_ald (i := 0) (h 78 0) rfl rfl rfl rfl (by decide) rfl ?_
                refine wp_run 1 (pc' := 45) (ls' := [.ref 74, .int 0, .int (nI k2), .int 2, .int x4, .int (nI k5), am_du]) (st' := [.ref 74, .int (h 78 0)]) rfl ?_
                refine wp_getr 78 rfl rfl rfl ?_
                refine wp_run 1 (pc' := 49) (ls' := [.ref 74, .int 0, .int (nI k2), .int 2, .int x4, .int (nI k5), am_du]) (st' := [.int 2, .ref 78, .int (h 78 0)]) rfl ?_
                refine wp_ald (i := 2) (h 78 2) rfl rfl rfl rfl (by decide) rfl ?_
                refine wp_icmp_t rfl (show (h 78 0) = (h 78 2) from (hob.symm.trans (cqe.trans hobB))) ?_
                refine wp_run 1 (pc' := 58) (ls' := [.ref 74, .int 0, .int (nI k2), .int 2, .int x4, .int (nI k5), am_du]) (st' := [.int (nI k5)]) rfl ?_
                refine wp_if_f rfl (show ¬ ((nI k5) < 0) from mt (nI_ltI (a := k5) (b := 0) (by omega) (by omega)).mp (by omega)) ?_
                refine wp_run 1 (pc' := 62) (ls' := [.ref 74, .int 0, .int (nI k2), .int 2, .int x4, .int (nI k5), am_du]) (st' := [.int (nI k2)]) rfl ?_
                refine wp_if_f rfl (show ¬ ((nI k2) < 0) from mt (nI_ltI (a := k2) (b := 0) (by omega) (by omega)).mp (by omega)) ?_
                refine wp_run 1 (pc' := 67) (ls' := [.ref 74, .int 0, .int (nI k2), .int 2, .int x4, .int (nI k5), am_du]) (st' := [.int x4]) rfl ?_
                refine wp_if rfl (fun (cq67 : x4 < 0) => ?_) (fun (cq67 : ¬ (x4 < 0)) => ?_)
                · skip
                  refine wp_run 3 (pc' := 106) (ls' := [.ref 74, .int 0, .int (nI k2), .int 2, .int x4, .int (nI k5), .int 0]) (st' := [.int 0]) rfl ?_
                  refine wp_if_t rfl (show (0 : Int32) = 0 from by decide) ?_
                  refine wp_run 1 (pc' := 115) (ls' := [.ref 74, .int 0, .int (nI k2), .int 2, .int x4, .int (nI k5), .int 0]) (st' := [.int (-1000000001)]) rfl ?_
                  refine wp_ret rfl ?_
                  show am_wp L xs _ _ _ _ 11 [.ref 74, .int 0, .int (nI k2), .int 2, .int x4, .int (nI k5), am_du, am_du, am_du] [.int (-1000000001)] (am_S b) (am_u h 73 1 (h 73 1 + 1)) _
                  refine wp_run 2 (pc' := 15) (ls' := [.ref 74, .int 0, .int (nI k2), .int 2, .int x4, .int (nI k5), .int (-1000000001), am_du, am_du]) (st' := [.int (-1000000001)]) rfl ?_
                  refine wp_if_f rfl (show ¬ (((-1000000001) : Int32) = 0) from by decide) ?_
                  refine wp_run 2 (pc' := 21) (ls' := [.ref 74, .int 0, .int (nI k2), .int 2, .int x4, .int (nI k5), .int (-1000000001), am_du, am_du]) (st' := [.int (-1000000001), .ref 74]) rfl ?_
                  refine wp_callV (o := 74) (as := [.int (-1000000001)]) (rest := []) (els := [.ref 74, .int (-1000000001)]) rfl rfl rfl rfl rfl rfl rfl rfl (by omega) ?_
                  refine sp_error1 ?_
                  show am_wp L xs _ _ _ _ 24 [.ref 74, .int 0, .int (nI k2), .int 2, .int x4, .int (nI k5), .int (-1000000001), am_du, am_du] [.int (-1000000001)] (am_S b) (am_u (am_u h 73 1 (h 73 1 + 1)) 77 1 ((am_u h 73 1 (h 73 1 + 1)) 77 1 + 1)) _
                  refine wp_ret rfl ?_
                  exact kk2 _ _ (re_err1 hR)
                · skip
                  obtain ⟨k4, hk4, ek4⟩ := pu_nonneg (Int32.not_lt.mp cq67)
                  subst ek4
                  refine wp_run 2 (pc' := 73) (ls' := [.ref 74, .int 0, .int (nI k2), .int 2, .int (nI k4), .int (nI k5), am_du]) (st' := [.ref 74, .int (nI k5)]) rfl ?_
                  refine wp_getr 79 rfl rfl rfl ?_
                  refine wp_run 1 (pc' := 77) (ls' := [.ref 74, .int 0, .int (nI k2), .int 2, .int (nI k4), .int (nI k5), am_du]) (st' := [.int 0, .ref 79, .int (nI k5)]) rfl ?_
                  refine wp_ald (i := 0) (nI l) hz2 rfl rfl rfl (by decide) rfl ?_
                  refine wp_run 2 (pc' := 80) (ls' := [.ref 74, .int 0, .int (nI k2), .int 2, .int (nI k4), .int (nI k5), am_du]) (st' := [.int ((nI l) - (nI k2)), .int (nI k5)]) rfl ?_
                  refine wp_icmp_f rfl (show ¬ (((nI l) - (nI k2)) < (nI k5)) from Int32.not_lt.mpr ((pu_suble (by omega) (by omega) hl24).mpr (by omega))) ?_
                  refine wp_run 2 (pc' := 86) (ls' := [.ref 74, .int 0, .int (nI k2), .int 2, .int (nI k4), .int (nI k5), am_du]) (st' := [.ref 74, .int (nI k5)]) rfl ?_
                  refine wp_getr 79 rfl rfl rfl ?_
                  refine wp_run 1 (pc' := 90) (ls' := [.ref 74, .int 0, .int (nI k2), .int 2, .int (nI k4), .int (nI k5), am_du]) (st' := [.int 2, .ref 79, .int (nI k5)]) rfl ?_
                  refine wp_ald (i := 2) (nI lB) hz2B rfl rfl rfl (by decide) rfl ?_
                  refine wp_run 2 (pc' := 94) (ls' := [.ref 74, .int 0, .int (nI k2), .int 2, .int (nI k4), .int (nI k5), am_du]) (st' := [.int ((nI lB) - (nI k4)), .int (nI k5)]) rfl ?_
                  refine wp_icmp_t rfl (show ((nI lB) - (nI k4)) < (nI k5) from Int32.not_le.mp (fun q => hno2 k4 k5 rfl rfl (by have := (pu_suble (by omega) (by omega) hl24B).mp q; omega))) ?_
                  refine wp_run 3 (pc' := 106) (ls' := [.ref 74, .int 0, .int (nI k2), .int 2, .int (nI k4), .int (nI k5), .int 0]) (st' := [.int 0]) rfl ?_
                  refine wp_if_t rfl (show (0 : Int32) = 0 from by decide) ?_
                  refine wp_run 1 (pc' := 115) (ls' := [.ref 74, .int 0, .int (nI k2), .int 2, .int (nI k4), .int (nI k5), .int 0]) (st' := [.int (-1000000001)]) rfl ?_
                  refine wp_ret rfl ?_
                  show am_wp L xs _ _ _ _ 11 [.ref 74, .int 0, .int (nI k2), .int 2, .int (nI k4), .int (nI k5), am_du, am_du, am_du] [.int (-1000000001)] (am_S b) (am_u h 73 1 (h 73 1 + 1)) _
                  refine wp_run 2 (pc' := 15) (ls' := [.ref 74, .int 0, .int (nI k2), .int 2, .int (nI k4), .int (nI k5), .int (-1000000001), am_du, am_du]) (st' := [.int (-1000000001)]) rfl ?_
                  refine wp_if_f rfl (show ¬ (((-1000000001) : Int32) = 0) from by decide) ?_
                  refine wp_run 2 (pc' := 21) (ls' := [.ref 74, .int 0, .int (nI k2), .int 2, .int (nI k4), .int (nI k5), .int (-1000000001), am_du, am_du]) (st' := [.int (-1000000001), .ref 74]) rfl ?_
                  refine wp_callV (o := 74) (as := [.int (-1000000001)]) (rest := []) (els := [.ref 74, .int (-1000000001)]) rfl rfl rfl rfl rfl rfl rfl rfl (by omega) ?_
                  refine sp_error1 ?_
                  show am_wp L xs _ _ _ _ 24 [.ref 74, .int 0, .int (nI k2), .int 2, .int (nI k4), .int (nI k5), .int (-1000000001), am_du, am_du] [.int (-1000000001)] (am_S b) (am_u (am_u h 73 1 (h 73 1 + 1)) 77 1 ((am_u h 73 1 (h 73 1 + 1)) 77 1 + 1)) _
                  refine wp_ret rfl ?_
                  exact kk2 _ _ (re_err1 hR)
            · skip
              intro hno1
              show am_wp L xs _ _ _ _ 85 [.ref 0, .int 0, .int x2, .int 2, .int x4, .int x5, .ref 65, .ref 69] [.int 0] (am_S b) h _
              refine wp_if_t rfl (show (0 : Int32) = 0 from by decide) ?_
              refine wp_run 2 (pc' := 102) (ls' := [.ref 0, .int 0, .int x2, .int 2, .int x4, .int x5, .ref 65, .ref 69]) (st' := [.int 1, .ref 0]) rfl ?_
              refine wp_callV (o := 0) (as := [.int 1]) (rest := []) (els := [.ref 0, .int 1]) rfl rfl rfl rfl rfl rfl rfl rfl (by omega) ?_
              refine sp_refuse1 (by omega) ?_
              show am_wp L xs _ _ _ _ 105 [.ref 0, .int 0, .int x2, .int 2, .int x4, .int x5, .ref 65, .ref 69] [.int (-1000000001)] (am_S b) (am_u h 73 1 (h 73 1 + 1)) _
              refine wp_ret rfl ?_
              refine kk _ _ _ (fun ms2 Q2 kk2 => ?_)
              refine wp_run 6 (pc' := 8) (ls' := [.ref 74, .int 0, .int x2, .int 2, .int x4, .int x5, am_du, am_du, am_du]) (st' := [.int x5, .int x4, .int 2, .int x2, .int 0, .ref 74]) rfl ?_
              refine wp_callV (o := 74) (as := [.int 0, .int x2, .int 2, .int x4, .int x5]) (rest := []) (els := [.ref 74, .int 0, .int x2, .int 2, .int x4, .int x5, am_du]) rfl rfl rfl rfl rfl rfl rfl rfl (by omega) ?_
              refine wp_run 1 (pc' := 1) (ls' := [.ref 74, .int 0, .int x2, .int 2, .int x4, .int x5, am_du]) (st' := [.int 0]) rfl ?_
              refine wp_callS (as := [.int 0]) (rest := []) (els := [.int 0]) rfl rfl rfl rfl rfl rfl rfl rfl (by omega) ?_
              refine sp_m_isSheet (by omega) (fun _ _ _ => ?_) (fun q => absurd rfl (q 0 (by omega)))
              show am_wp L xs _ _ _ _ 4 [.ref 74, .int 0, .int x2, .int 2, .int x4, .int x5, am_du] [.int 1] (am_S b) (am_u h 73 1 (h 73 1 + 1)) _
              refine wp_if_f rfl (show ¬ ((1 : Int32) = 0) from by decide) ?_
              refine wp_run 1 (pc' := 8) (ls' := [.ref 74, .int 0, .int x2, .int 2, .int x4, .int x5, am_du]) (st' := [.int 2]) rfl ?_
              refine wp_callS (as := [.int 2]) (rest := []) (els := [.int 2]) rfl rfl rfl rfl rfl rfl rfl rfl (by omega) ?_
              refine sp_m_isSheet (by omega) (fun _ _ _ => ?_) (fun q => absurd rfl (q 2 (by omega)))
              show am_wp L xs _ _ _ _ 11 [.ref 74, .int 0, .int x2, .int 2, .int x4, .int x5, am_du] [.int 1] (am_S b) (am_u h 73 1 (h 73 1 + 1)) _
              refine wp_if_t rfl (show ¬ (1 : Int32) = 0 from by decide) ?_
              refine wp_run 1 (pc' := 18) (ls' := [.ref 74, .int 0, .int x2, .int 2, .int x4, .int x5, am_du]) (st' := [.ref 74]) rfl ?_
              refine wp_getr 78 rfl rfl rfl ?_
              refine wp_run 1 (pc' := 22) (ls' := [.ref 74, .int 0, .int x2, .int 2, .int x4, .int x5, am_du]) (st' := [.int 0, .ref 78]) rfl ?_
              refine wp_ald (i := 0) (h 78 0) rfl rfl rfl rfl (by decide) rfl ?_
              refine wp_if_f rfl (show ¬ ((h 78 0) = 0) from (fun q => cqz0 (hob.trans q))) ?_
              refine wp_run 1 (pc' := 27) (ls' := [.ref 74, .int 0, .int x2, .int 2, .int x4, .int x5, am_du]) (st' := [.ref 74]) rfl ?_
              refine wp_getr 78 rfl rfl rfl ?_
              refine wp_run 1 (pc' := 31) (ls' := [.ref 74, .int 0, .int x2, .int 2, .int x4, .int x5, am_du]) (st' := [.int 2, .ref 78]) rfl ?_
              refine wp_ald (i := 2) (h 78 2) rfl rfl rfl rfl (by decide) rfl ?_
              refine wp_if_t rfl (show ¬ (h 78 2) = 0 from (fun q => cqz1 (hobB.trans q))) ?_
              refine wp_run 1 (pc' := 39) (ls' := [.ref 74, .int 0, .int x2, .int 2, .int x4, .int x5, am_du]) (st' := [.ref 74]) rfl ?_
              refine wp_getr 78 rfl rfl rfl ?_
              refine wp_run 1 (pc' := 43) (ls' := [.ref 74, .int 0, .int x2, .int 2, .int x4, .int x5, am_du]) (st' := [.int 0, .ref 78]) rfl ?_
              refine wp_ald (i := 0) (h 78 0) rfl rfl rfl rfl (by decide) rfl ?_
              refine wp_run 1 (pc' := 45) (ls' := [.ref 74, .int 0, .int x2, .int 2, .int x4, .int x5, am_du]) (st' := [.ref 74, .int (h 78 0)]) rfl ?_
              refine wp_getr 78 rfl rfl rfl ?_
              refine wp_run 1 (pc' := 49) (ls' := [.ref 74, .int 0, .int x2, .int 2, .int x4, .int x5, am_du]) (st' := [.int 2, .ref 78, .int (h 78 0)]) rfl ?_
              refine wp_ald (i := 2) (h 78 2) rfl rfl rfl rfl (by decide) rfl ?_
              refine wp_icmp_t rfl (show (h 78 0) = (h 78 2) from (hob.symm.trans (cqe.trans hobB))) ?_
              refine wp_run 1 (pc' := 58) (ls' := [.ref 74, .int 0, .int x2, .int 2, .int x4, .int x5, am_du]) (st' := [.int x5]) rfl ?_
              refine wp_if rfl (fun (cq58 : x5 < 0) => ?_) (fun (cq58 : ¬ (x5 < 0)) => ?_)
              · skip
                refine wp_run 3 (pc' := 106) (ls' := [.ref 74, .int 0, .int x2, .int 2, .int x4, .int x5, .int 0]) (st' := [.int 0]) rfl ?_
                refine wp_if_t rfl (show (0 : Int32) = 0 from by decide) ?_
                refine wp_run 1 (pc' := 115) (ls' := [.ref 74, .int 0, .int x2, .int 2, .int x4, .int x5, .int 0]) (st' := [.int (-1000000001)]) rfl ?_
                refine wp_ret rfl ?_
                show am_wp L xs _ _ _ _ 11 [.ref 74, .int 0, .int x2, .int 2, .int x4, .int x5, am_du, am_du, am_du] [.int (-1000000001)] (am_S b) (am_u h 73 1 (h 73 1 + 1)) _
                refine wp_run 2 (pc' := 15) (ls' := [.ref 74, .int 0, .int x2, .int 2, .int x4, .int x5, .int (-1000000001), am_du, am_du]) (st' := [.int (-1000000001)]) rfl ?_
                refine wp_if_f rfl (show ¬ (((-1000000001) : Int32) = 0) from by decide) ?_
                refine wp_run 2 (pc' := 21) (ls' := [.ref 74, .int 0, .int x2, .int 2, .int x4, .int x5, .int (-1000000001), am_du, am_du]) (st' := [.int (-1000000001), .ref 74]) rfl ?_
                refine wp_callV (o := 74) (as := [.int (-1000000001)]) (rest := []) (els := [.ref 74, .int (-1000000001)]) rfl rfl rfl rfl rfl rfl rfl rfl (by omega) ?_
                refine sp_error1 ?_
                show am_wp L xs _ _ _ _ 24 [.ref 74, .int 0, .int x2, .int 2, .int x4, .int x5, .int (-1000000001), am_du, am_du] [.int (-1000000001)] (am_S b) (am_u (am_u h 73 1 (h 73 1 + 1)) 77 1 ((am_u h 73 1 (h 73 1 + 1)) 77 1 + 1)) _
                refine wp_ret rfl ?_
                exact kk2 _ _ (re_err1 hR)
              · skip
                obtain ⟨k5, hk5, ek5⟩ := pu_nonneg (Int32.not_lt.mp cq58)
                subst ek5
                refine wp_run 1 (pc' := 62) (ls' := [.ref 74, .int 0, .int x2, .int 2, .int x4, .int (nI k5), am_du]) (st' := [.int x2]) rfl ?_
                refine wp_if rfl (fun (cq62 : x2 < 0) => ?_) (fun (cq62 : ¬ (x2 < 0)) => ?_)
                · skip
                  refine wp_run 3 (pc' := 106) (ls' := [.ref 74, .int 0, .int x2, .int 2, .int x4, .int (nI k5), .int 0]) (st' := [.int 0]) rfl ?_
                  refine wp_if_t rfl (show (0 : Int32) = 0 from by decide) ?_
                  refine wp_run 1 (pc' := 115) (ls' := [.ref 74, .int 0, .int x2, .int 2, .int x4, .int (nI k5), .int 0]) (st' := [.int (-1000000001)]) rfl ?_
                  refine wp_ret rfl ?_
                  show am_wp L xs _ _ _ _ 11 [.ref 74, .int 0, .int x2, .int 2, .int x4, .int (nI k5), am_du, am_du, am_du] [.int (-1000000001)] (am_S b) (am_u h 73 1 (h 73 1 + 1)) _
                  refine wp_run 2 (pc' := 15) (ls' := [.ref 74, .int 0, .int x2, .int 2, .int x4, .int (nI k5), .int (-1000000001), am_du, am_du]) (st' := [.int (-1000000001)]) rfl ?_
                  refine wp_if_f rfl (show ¬ (((-1000000001) : Int32) = 0) from by decide) ?_
                  refine wp_run 2 (pc' := 21) (ls' := [.ref 74, .int 0, .int x2, .int 2, .int x4, .int (nI k5), .int (-1000000001), am_du, am_du]) (st' := [.int (-1000000001), .ref 74]) rfl ?_
                  refine wp_callV (o := 74) (as := [.int (-1000000001)]) (rest := []) (els := [.ref 74, .int (-1000000001)]) rfl rfl rfl rfl rfl rfl rfl rfl (by omega) ?_
                  refine sp_error1 ?_
                  show am_wp L xs _ _ _ _ 24 [.ref 74, .int 0, .int x2, .int 2, .int x4, .int (nI k5), .int (-1000000001), am_du, am_du] [.int (-1000000001)] (am_S b) (am_u (am_u h 73 1 (h 73 1 + 1)) 77 1 ((am_u h 73 1 (h 73 1 + 1)) 77 1 + 1)) _
                  refine wp_ret rfl ?_
                  exact kk2 _ _ (re_err1 hR)
                · skip
                  obtain ⟨k2, hk2, ek2⟩ := pu_nonneg (Int32.not_lt.mp cq62)
                  subst ek2
                  refine wp_run 1 (pc' := 67) (ls' := [.ref 74, .int 0, .int (nI k2), .int 2, .int x4, .int (nI k5), am_du]) (st' := [.int x4]) rfl ?_
                  refine wp_if rfl (fun (cq67 : x4 < 0) => ?_) (fun (cq67 : ¬ (x4 < 0)) => ?_)
                  · skip
                    refine wp_run 3 (pc' := 106) (ls' := [.ref 74, .int 0, .int (nI k2), .int 2, .int x4, .int (nI k5), .int 0]) (st' := [.int 0]) rfl ?_
                    refine wp_if_t rfl (show (0 : Int32) = 0 from by decide) ?_
                    refine wp_run 1 (pc' := 115) (ls' := [.ref 74, .int 0, .int (nI k2), .int 2, .int x4, .int (nI k5), .int 0]) (st' := [.int (-1000000001)]) rfl ?_
                    refine wp_ret rfl ?_
                    show am_wp L xs _ _ _ _ 11 [.ref 74, .int 0, .int (nI k2), .int 2, .int x4, .int (nI k5), am_du, am_du, am_du] [.int (-1000000001)] (am_S b) (am_u h 73 1 (h 73 1 + 1)) _
                    refine wp_run 2 (pc' := 15) (ls' := [.ref 74, .int 0, .int (nI k2), .int 2, .int x4, .int (nI k5), .int (-1000000001), am_du, am_du]) (st' := [.int (-1000000001)]) rfl ?_
                    refine wp_if_f rfl (show ¬ (((-1000000001) : Int32) = 0) from by decide) ?_
                    refine wp_run 2 (pc' := 21) (ls' := [.ref 74, .int 0, .int (nI k2), .int 2, .int x4, .int (nI k5), .int (-1000000001), am_du, am_du]) (st' := [.int (-1000000001), .ref 74]) rfl ?_
                    refine wp_callV (o := 74) (as := [.int (-1000000001)]) (rest := []) (els := [.ref 74, .int (-1000000001)]) rfl rfl rfl rfl rfl rfl rfl rfl (by omega) ?_
                    refine sp_error1 ?_
                    show am_wp L xs _ _ _ _ 24 [.ref 74, .int 0, .int (nI k2), .int 2, .int x4, .int (nI k5), .int (-1000000001), am_du, am_du] [.int (-1000000001)] (am_S b) (am_u (am_u h 73 1 (h 73 1 + 1)) 77 1 ((am_u h 73 1 (h 73 1 + 1)) 77 1 + 1)) _
                    refine wp_ret rfl ?_
                    exact kk2 _ _ (re_err1 hR)
                  · skip
                    obtain ⟨k4, hk4, ek4⟩ := pu_nonneg (Int32.not_lt.mp cq67)
                    subst ek4
                    refine wp_run 2 (pc' := 73) (ls' := [.ref 74, .int 0, .int (nI k2), .int 2, .int (nI k4), .int (nI k5), am_du]) (st' := [.ref 74, .int (nI k5)]) rfl ?_
                    refine wp_getr 79 rfl rfl rfl ?_
                    refine wp_run 1 (pc' := 77) (ls' := [.ref 74, .int 0, .int (nI k2), .int 2, .int (nI k4), .int (nI k5), am_du]) (st' := [.int 0, .ref 79, .int (nI k5)]) rfl ?_
                    refine wp_ald (i := 0) (nI l) hz2 rfl rfl rfl (by decide) rfl ?_
                    refine wp_run 2 (pc' := 80) (ls' := [.ref 74, .int 0, .int (nI k2), .int 2, .int (nI k4), .int (nI k5), am_du]) (st' := [.int ((nI l) - (nI k2)), .int (nI k5)]) rfl ?_
                    refine wp_icmp_t rfl (show ((nI l) - (nI k2)) < (nI k5) from Int32.not_le.mp (fun q => hno1 k2 k5 rfl rfl (by have := (pu_suble (by omega) (by omega) hl24).mp q; omega))) ?_
                    refine wp_run 3 (pc' := 106) (ls' := [.ref 74, .int 0, .int (nI k2), .int 2, .int (nI k4), .int (nI k5), .int 0]) (st' := [.int 0]) rfl ?_
                    refine wp_if_t rfl (show (0 : Int32) = 0 from by decide) ?_
                    refine wp_run 1 (pc' := 115) (ls' := [.ref 74, .int 0, .int (nI k2), .int 2, .int (nI k4), .int (nI k5), .int 0]) (st' := [.int (-1000000001)]) rfl ?_
                    refine wp_ret rfl ?_
                    show am_wp L xs _ _ _ _ 11 [.ref 74, .int 0, .int (nI k2), .int 2, .int (nI k4), .int (nI k5), am_du, am_du, am_du] [.int (-1000000001)] (am_S b) (am_u h 73 1 (h 73 1 + 1)) _
                    refine wp_run 2 (pc' := 15) (ls' := [.ref 74, .int 0, .int (nI k2), .int 2, .int (nI k4), .int (nI k5), .int (-1000000001), am_du, am_du]) (st' := [.int (-1000000001)]) rfl ?_
                    refine wp_if_f rfl (show ¬ (((-1000000001) : Int32) = 0) from by decide) ?_
                    refine wp_run 2 (pc' := 21) (ls' := [.ref 74, .int 0, .int (nI k2), .int 2, .int (nI k4), .int (nI k5), .int (-1000000001), am_du, am_du]) (st' := [.int (-1000000001), .ref 74]) rfl ?_
                    refine wp_callV (o := 74) (as := [.int (-1000000001)]) (rest := []) (els := [.ref 74, .int (-1000000001)]) rfl rfl rfl rfl rfl rfl rfl rfl (by omega) ?_
                    refine sp_error1 ?_
                    show am_wp L xs _ _ _ _ 24 [.ref 74, .int 0, .int (nI k2), .int 2, .int (nI k4), .int (nI k5), .int (-1000000001), am_du, am_du] [.int (-1000000001)] (am_S b) (am_u (am_u h 73 1 (h 73 1 + 1)) 77 1 ((am_u h 73 1 (h 73 1 + 1)) 77 1 + 1)) _
                    refine wp_ret rfl ?_
                    exact kk2 _ _ (re_err1 hR)
          · skip
            refine wp_run 2 (pc' := 73) (ls' := [.ref 0, .int 0, .int x2, .int 2, .int x4, .int x5, .ref 65, .ref 69]) (st' := [.int 5, .ref 0]) rfl ?_
            refine wp_callV (o := 0) (as := [.int 5]) (rest := []) (els := [.ref 0, .int 5]) rfl rfl rfl rfl rfl rfl rfl rfl (by omega) ?_
            refine sp_refuse5 (by omega) ?_
            show am_wp L xs _ _ _ _ 76 [.ref 0, .int 0, .int x2, .int 2, .int x4, .int x5, .ref 65, .ref 69] [.int (-1000000005)] (am_S b) (am_u h 73 5 (h 73 5 + 1)) _
            refine wp_ret rfl ?_
            refine kk _ _ _ (fun ms2 Q2 kk2 => ?_)
            refine wp_run 6 (pc' := 8) (ls' := [.ref 74, .int 0, .int x2, .int 2, .int x4, .int x5, am_du, am_du, am_du]) (st' := [.int x5, .int x4, .int 2, .int x2, .int 0, .ref 74]) rfl ?_
            refine wp_callV (o := 74) (as := [.int 0, .int x2, .int 2, .int x4, .int x5]) (rest := []) (els := [.ref 74, .int 0, .int x2, .int 2, .int x4, .int x5, am_du]) rfl rfl rfl rfl rfl rfl rfl rfl (by omega) ?_
            refine wp_run 1 (pc' := 1) (ls' := [.ref 74, .int 0, .int x2, .int 2, .int x4, .int x5, am_du]) (st' := [.int 0]) rfl ?_
            refine wp_callS (as := [.int 0]) (rest := []) (els := [.int 0]) rfl rfl rfl rfl rfl rfl rfl rfl (by omega) ?_
            refine sp_m_isSheet (by omega) (fun _ _ _ => ?_) (fun q => absurd rfl (q 0 (by omega)))
            show am_wp L xs _ _ _ _ 4 [.ref 74, .int 0, .int x2, .int 2, .int x4, .int x5, am_du] [.int 1] (am_S b) (am_u h 73 5 (h 73 5 + 1)) _
            refine wp_if_f rfl (show ¬ ((1 : Int32) = 0) from by decide) ?_
            refine wp_run 1 (pc' := 8) (ls' := [.ref 74, .int 0, .int x2, .int 2, .int x4, .int x5, am_du]) (st' := [.int 2]) rfl ?_
            refine wp_callS (as := [.int 2]) (rest := []) (els := [.int 2]) rfl rfl rfl rfl rfl rfl rfl rfl (by omega) ?_
            refine sp_m_isSheet (by omega) (fun _ _ _ => ?_) (fun q => absurd rfl (q 2 (by omega)))
            show am_wp L xs _ _ _ _ 11 [.ref 74, .int 0, .int x2, .int 2, .int x4, .int x5, am_du] [.int 1] (am_S b) (am_u h 73 5 (h 73 5 + 1)) _
            refine wp_if_t rfl (show ¬ (1 : Int32) = 0 from by decide) ?_
            refine wp_run 1 (pc' := 18) (ls' := [.ref 74, .int 0, .int x2, .int 2, .int x4, .int x5, am_du]) (st' := [.ref 74]) rfl ?_
            refine wp_getr 78 rfl rfl rfl ?_
            refine wp_run 1 (pc' := 22) (ls' := [.ref 74, .int 0, .int x2, .int 2, .int x4, .int x5, am_du]) (st' := [.int 0, .ref 78]) rfl ?_
            refine wp_ald (i := 0) (h 78 0) rfl rfl rfl rfl (by decide) rfl ?_
            refine wp_if_f rfl (show ¬ ((h 78 0) = 0) from (fun q => cqz0 (hob.trans q))) ?_
            refine wp_run 1 (pc' := 27) (ls' := [.ref 74, .int 0, .int x2, .int 2, .int x4, .int x5, am_du]) (st' := [.ref 74]) rfl ?_
            refine wp_getr 78 rfl rfl rfl ?_
            refine wp_run 1 (pc' := 31) (ls' := [.ref 74, .int 0, .int x2, .int 2, .int x4, .int x5, am_du]) (st' := [.int 2, .ref 78]) rfl ?_
            refine wp_ald (i := 2) (h 78 2) rfl rfl rfl rfl (by decide) rfl ?_
            refine wp_if_t rfl (show ¬ (h 78 2) = 0 from (fun q => cqz1 (hobB.trans q))) ?_
            refine wp_run 1 (pc' := 39) (ls' := [.ref 74, .int 0, .int x2, .int 2, .int x4, .int x5, am_du]) (st' := [.ref 74]) rfl ?_
            refine wp_getr 78 rfl rfl rfl ?_
            refine wp_run 1 (pc' := 43) (ls' := [.ref 74, .int 0, .int x2, .int 2, .int x4, .int x5, am_du]) (st' := [.int 0, .ref 78]) rfl ?_
            refine wp_ald (i := 0) (h 78 0) rfl rfl rfl rfl (by decide) rfl ?_
            refine wp_run 1 (pc' := 45) (ls' := [.ref 74, .int 0, .int x2, .int 2, .int x4, .int x5, am_du]) (st' := [.ref 74, .int (h 78 0)]) rfl ?_
            refine wp_getr 78 rfl rfl rfl ?_
            refine wp_run 1 (pc' := 49) (ls' := [.ref 74, .int 0, .int x2, .int 2, .int x4, .int x5, am_du]) (st' := [.int 2, .ref 78, .int (h 78 0)]) rfl ?_
            refine wp_ald (i := 2) (h 78 2) rfl rfl rfl rfl (by decide) rfl ?_
            refine wp_icmp_f rfl (show ¬ ((h 78 0) = (h 78 2)) from (fun q => cqe (hob.trans (q.trans hobB.symm)))) ?_
            refine wp_run 1 (pc' := 55) (ls' := [.ref 74, .int 0, .int x2, .int 2, .int x4, .int x5, am_du]) (st' := [.int (-1000000005)]) rfl ?_
            refine wp_ret rfl ?_
            show am_wp L xs _ _ _ _ 11 [.ref 74, .int 0, .int x2, .int 2, .int x4, .int x5, am_du, am_du, am_du] [.int (-1000000005)] (am_S b) (am_u h 73 5 (h 73 5 + 1)) _
            refine wp_run 2 (pc' := 15) (ls' := [.ref 74, .int 0, .int x2, .int 2, .int x4, .int x5, .int (-1000000005), am_du, am_du]) (st' := [.int (-1000000005)]) rfl ?_
            refine wp_if_f rfl (show ¬ (((-1000000005) : Int32) = 0) from by decide) ?_
            refine wp_run 2 (pc' := 21) (ls' := [.ref 74, .int 0, .int x2, .int 2, .int x4, .int x5, .int (-1000000005), am_du, am_du]) (st' := [.int (-1000000005), .ref 74]) rfl ?_
            refine wp_callV (o := 74) (as := [.int (-1000000005)]) (rest := []) (els := [.ref 74, .int (-1000000005)]) rfl rfl rfl rfl rfl rfl rfl rfl (by omega) ?_
            refine sp_error5 ?_
            show am_wp L xs _ _ _ _ 24 [.ref 74, .int 0, .int x2, .int 2, .int x4, .int x5, .int (-1000000005), am_du, am_du] [.int (-1000000005)] (am_S b) (am_u (am_u h 73 5 (h 73 5 + 1)) 77 5 ((am_u h 73 5 (h 73 5 + 1)) 77 5 + 1)) _
            refine wp_ret rfl ?_
            exact kk2 _ _ (re_err5 hR)
        · skip
          replace cqz1 := Decidable.not_not.mp cqz1
          refine wp_run 2 (pc' := 12) (ls' := [.ref 69]) (st' := [.int 1]) rfl ?_
          refine wp_retz rfl (Or.inr rfl) ?_
          show am_wp L xs _ _ _ _ 49 [.ref 0, .int 0, .int x2, .int 2, .int x4, .int x5, .ref 65, .ref 69] [.int 1] (am_S b) h _
          refine wp_if_f rfl (show ¬ ((1 : Int32) = 0) from by decide) ?_
          refine wp_run 2 (pc' := 54) (ls' := [.ref 0, .int 0, .int x2, .int 2, .int x4, .int x5, .ref 65, .ref 69]) (st' := [.int 2, .ref 0]) rfl ?_
          refine wp_callV (o := 0) (as := [.int 2]) (rest := []) (els := [.ref 0, .int 2]) rfl rfl rfl rfl rfl rfl rfl rfl (by omega) ?_
          refine sp_refuse2 (by omega) ?_
          show am_wp L xs _ _ _ _ 57 [.ref 0, .int 0, .int x2, .int 2, .int x4, .int x5, .ref 65, .ref 69] [.int (-1000000002)] (am_S b) (am_u h 73 2 (h 73 2 + 1)) _
          refine wp_ret rfl ?_
          refine kk _ _ _ (fun ms2 Q2 kk2 => ?_)
          refine wp_run 6 (pc' := 8) (ls' := [.ref 74, .int 0, .int x2, .int 2, .int x4, .int x5, am_du, am_du, am_du]) (st' := [.int x5, .int x4, .int 2, .int x2, .int 0, .ref 74]) rfl ?_
          refine wp_callV (o := 74) (as := [.int 0, .int x2, .int 2, .int x4, .int x5]) (rest := []) (els := [.ref 74, .int 0, .int x2, .int 2, .int x4, .int x5, am_du]) rfl rfl rfl rfl rfl rfl rfl rfl (by omega) ?_
          refine wp_run 1 (pc' := 1) (ls' := [.ref 74, .int 0, .int x2, .int 2, .int x4, .int x5, am_du]) (st' := [.int 0]) rfl ?_
          refine wp_callS (as := [.int 0]) (rest := []) (els := [.int 0]) rfl rfl rfl rfl rfl rfl rfl rfl (by omega) ?_
          refine sp_m_isSheet (by omega) (fun _ _ _ => ?_) (fun q => absurd rfl (q 0 (by omega)))
          show am_wp L xs _ _ _ _ 4 [.ref 74, .int 0, .int x2, .int 2, .int x4, .int x5, am_du] [.int 1] (am_S b) (am_u h 73 2 (h 73 2 + 1)) _
          refine wp_if_f rfl (show ¬ ((1 : Int32) = 0) from by decide) ?_
          refine wp_run 1 (pc' := 8) (ls' := [.ref 74, .int 0, .int x2, .int 2, .int x4, .int x5, am_du]) (st' := [.int 2]) rfl ?_
          refine wp_callS (as := [.int 2]) (rest := []) (els := [.int 2]) rfl rfl rfl rfl rfl rfl rfl rfl (by omega) ?_
          refine sp_m_isSheet (by omega) (fun _ _ _ => ?_) (fun q => absurd rfl (q 2 (by omega)))
          show am_wp L xs _ _ _ _ 11 [.ref 74, .int 0, .int x2, .int 2, .int x4, .int x5, am_du] [.int 1] (am_S b) (am_u h 73 2 (h 73 2 + 1)) _
          refine wp_if_t rfl (show ¬ (1 : Int32) = 0 from by decide) ?_
          refine wp_run 1 (pc' := 18) (ls' := [.ref 74, .int 0, .int x2, .int 2, .int x4, .int x5, am_du]) (st' := [.ref 74]) rfl ?_
          refine wp_getr 78 rfl rfl rfl ?_
          refine wp_run 1 (pc' := 22) (ls' := [.ref 74, .int 0, .int x2, .int 2, .int x4, .int x5, am_du]) (st' := [.int 0, .ref 78]) rfl ?_
          refine wp_ald (i := 0) (h 78 0) rfl rfl rfl rfl (by decide) rfl ?_
          refine wp_if_f rfl (show ¬ ((h 78 0) = 0) from (fun q => cqz0 (hob.trans q))) ?_
          refine wp_run 1 (pc' := 27) (ls' := [.ref 74, .int 0, .int x2, .int 2, .int x4, .int x5, am_du]) (st' := [.ref 74]) rfl ?_
          refine wp_getr 78 rfl rfl rfl ?_
          refine wp_run 1 (pc' := 31) (ls' := [.ref 74, .int 0, .int x2, .int 2, .int x4, .int x5, am_du]) (st' := [.int 2, .ref 78]) rfl ?_
          refine wp_ald (i := 2) (h 78 2) rfl rfl rfl rfl (by decide) rfl ?_
          refine wp_if_f rfl (show ¬ (¬ (h 78 2) = 0) from (fun q => q (hobB.symm.trans cqz1))) ?_
          refine wp_run 1 (pc' := 37) (ls' := [.ref 74, .int 0, .int x2, .int 2, .int x4, .int x5, am_du]) (st' := [.int (-1000000002)]) rfl ?_
          refine wp_ret rfl ?_
          show am_wp L xs _ _ _ _ 11 [.ref 74, .int 0, .int x2, .int 2, .int x4, .int x5, am_du, am_du, am_du] [.int (-1000000002)] (am_S b) (am_u h 73 2 (h 73 2 + 1)) _
          refine wp_run 2 (pc' := 15) (ls' := [.ref 74, .int 0, .int x2, .int 2, .int x4, .int x5, .int (-1000000002), am_du, am_du]) (st' := [.int (-1000000002)]) rfl ?_
          refine wp_if_f rfl (show ¬ (((-1000000002) : Int32) = 0) from by decide) ?_
          refine wp_run 2 (pc' := 21) (ls' := [.ref 74, .int 0, .int x2, .int 2, .int x4, .int x5, .int (-1000000002), am_du, am_du]) (st' := [.int (-1000000002), .ref 74]) rfl ?_
          refine wp_callV (o := 74) (as := [.int (-1000000002)]) (rest := []) (els := [.ref 74, .int (-1000000002)]) rfl rfl rfl rfl rfl rfl rfl rfl (by omega) ?_
          refine sp_error2 ?_
          show am_wp L xs _ _ _ _ 24 [.ref 74, .int 0, .int x2, .int 2, .int x4, .int x5, .int (-1000000002), am_du, am_du] [.int (-1000000002)] (am_S b) (am_u (am_u h 73 2 (h 73 2 + 1)) 77 2 ((am_u h 73 2 (h 73 2 + 1)) 77 2 + 1)) _
          refine wp_ret rfl ?_
          exact kk2 _ _ (re_err2 hR)
      · skip
        replace cqz0 := Decidable.not_not.mp cqz0
        refine wp_run 2 (pc' := 12) (ls' := [.ref 65]) (st' := [.int 1]) rfl ?_
        refine wp_retz rfl (Or.inr rfl) ?_
        show am_wp L xs _ _ _ _ 41 [.ref 0, .int 0, .int x2, .int 2, .int x4, .int x5, .ref 65, .ref 69] [.int 1] (am_S b) h _
        refine wp_if_t rfl (show ¬ (1 : Int32) = 0 from by decide) ?_
        refine wp_run 2 (pc' := 54) (ls' := [.ref 0, .int 0, .int x2, .int 2, .int x4, .int x5, .ref 65, .ref 69]) (st' := [.int 2, .ref 0]) rfl ?_
        refine wp_callV (o := 0) (as := [.int 2]) (rest := []) (els := [.ref 0, .int 2]) rfl rfl rfl rfl rfl rfl rfl rfl (by omega) ?_
        refine sp_refuse2 (by omega) ?_
        show am_wp L xs _ _ _ _ 57 [.ref 0, .int 0, .int x2, .int 2, .int x4, .int x5, .ref 65, .ref 69] [.int (-1000000002)] (am_S b) (am_u h 73 2 (h 73 2 + 1)) _
        refine wp_ret rfl ?_
        refine kk _ _ _ (fun ms2 Q2 kk2 => ?_)
        refine wp_run 6 (pc' := 8) (ls' := [.ref 74, .int 0, .int x2, .int 2, .int x4, .int x5, am_du, am_du, am_du]) (st' := [.int x5, .int x4, .int 2, .int x2, .int 0, .ref 74]) rfl ?_
        refine wp_callV (o := 74) (as := [.int 0, .int x2, .int 2, .int x4, .int x5]) (rest := []) (els := [.ref 74, .int 0, .int x2, .int 2, .int x4, .int x5, am_du]) rfl rfl rfl rfl rfl rfl rfl rfl (by omega) ?_
        refine wp_run 1 (pc' := 1) (ls' := [.ref 74, .int 0, .int x2, .int 2, .int x4, .int x5, am_du]) (st' := [.int 0]) rfl ?_
        refine wp_callS (as := [.int 0]) (rest := []) (els := [.int 0]) rfl rfl rfl rfl rfl rfl rfl rfl (by omega) ?_
        refine sp_m_isSheet (by omega) (fun _ _ _ => ?_) (fun q => absurd rfl (q 0 (by omega)))
        show am_wp L xs _ _ _ _ 4 [.ref 74, .int 0, .int x2, .int 2, .int x4, .int x5, am_du] [.int 1] (am_S b) (am_u h 73 2 (h 73 2 + 1)) _
        refine wp_if_f rfl (show ¬ ((1 : Int32) = 0) from by decide) ?_
        refine wp_run 1 (pc' := 8) (ls' := [.ref 74, .int 0, .int x2, .int 2, .int x4, .int x5, am_du]) (st' := [.int 2]) rfl ?_
        refine wp_callS (as := [.int 2]) (rest := []) (els := [.int 2]) rfl rfl rfl rfl rfl rfl rfl rfl (by omega) ?_
        refine sp_m_isSheet (by omega) (fun _ _ _ => ?_) (fun q => absurd rfl (q 2 (by omega)))
        show am_wp L xs _ _ _ _ 11 [.ref 74, .int 0, .int x2, .int 2, .int x4, .int x5, am_du] [.int 1] (am_S b) (am_u h 73 2 (h 73 2 + 1)) _
        refine wp_if_t rfl (show ¬ (1 : Int32) = 0 from by decide) ?_
        refine wp_run 1 (pc' := 18) (ls' := [.ref 74, .int 0, .int x2, .int 2, .int x4, .int x5, am_du]) (st' := [.ref 74]) rfl ?_
        refine wp_getr 78 rfl rfl rfl ?_
        refine wp_run 1 (pc' := 22) (ls' := [.ref 74, .int 0, .int x2, .int 2, .int x4, .int x5, am_du]) (st' := [.int 0, .ref 78]) rfl ?_
        refine wp_ald (i := 0) (h 78 0) rfl rfl rfl rfl (by decide) rfl ?_
        refine wp_if_t rfl (show (h 78 0) = 0 from (hob.symm.trans cqz0)) ?_
        refine wp_run 1 (pc' := 37) (ls' := [.ref 74, .int 0, .int x2, .int 2, .int x4, .int x5, am_du]) (st' := [.int (-1000000002)]) rfl ?_
        refine wp_ret rfl ?_
        show am_wp L xs _ _ _ _ 11 [.ref 74, .int 0, .int x2, .int 2, .int x4, .int x5, am_du, am_du, am_du] [.int (-1000000002)] (am_S b) (am_u h 73 2 (h 73 2 + 1)) _
        refine wp_run 2 (pc' := 15) (ls' := [.ref 74, .int 0, .int x2, .int 2, .int x4, .int x5, .int (-1000000002), am_du, am_du]) (st' := [.int (-1000000002)]) rfl ?_
        refine wp_if_f rfl (show ¬ (((-1000000002) : Int32) = 0) from by decide) ?_
        refine wp_run 2 (pc' := 21) (ls' := [.ref 74, .int 0, .int x2, .int 2, .int x4, .int x5, .int (-1000000002), am_du, am_du]) (st' := [.int (-1000000002), .ref 74]) rfl ?_
        refine wp_callV (o := 74) (as := [.int (-1000000002)]) (rest := []) (els := [.ref 74, .int (-1000000002)]) rfl rfl rfl rfl rfl rfl rfl rfl (by omega) ?_
        refine sp_error2 ?_
        show am_wp L xs _ _ _ _ 24 [.ref 74, .int 0, .int x2, .int 2, .int x4, .int x5, .int (-1000000002), am_du, am_du] [.int (-1000000002)] (am_S b) (am_u (am_u h 73 2 (h 73 2 + 1)) 77 2 ((am_u h 73 2 (h 73 2 + 1)) 77 2 + 1)) _
        refine wp_ret rfl ?_
        exact kk2 _ _ (re_err2 hR)
    · skip
      intro ex3
      subst ex3
      show am_wp L xs _ _ _ _ 11 [.ref 0, .int 0, .int x2, .int 3, .int x4, .int x5, am_du, am_du] [.int 1] (am_S b) h _
      refine wp_if_t rfl (show ¬ (1 : Int32) = 0 from by decide) ?_
      obtain ⟨l, hl24, ho2, hz2, hob, hbb, hri⟩ := id hS0
      obtain ⟨lB, hl24B, ho2B, hz2B, hobB, hbbB, hriB⟩ := id hS3
      refine wp_run 1 (pc' := 21) (ls' := [.ref 0, .int 0, .int x2, .int 3, .int x4, .int x5, am_du, am_du]) (st' := [.ref 0]) rfl ?_
      refine wp_getr 64 rfl rfl rfl ?_
      refine wp_run 1 (pc' := 25) (ls' := [.ref 0, .int 0, .int x2, .int 3, .int x4, .int x5, am_du, am_du]) (st' := [.int 0, .ref 64]) rfl ?_
      refine wp_aald (r := 65) rfl rfl (Or.inr rfl) rfl (by decide) rfl rfl ?_
      refine wp_run 2 (pc' := 29) (ls' := [.ref 0, .int 0, .int x2, .int 3, .int x4, .int x5, .ref 65, am_du]) (st' := [.ref 0]) rfl ?_
      refine wp_getr 64 rfl rfl rfl ?_
      refine wp_run 1 (pc' := 33) (ls' := [.ref 0, .int 0, .int x2, .int 3, .int x4, .int x5, .ref 65, am_du]) (st' := [.int 3, .ref 64]) rfl ?_
      refine wp_aald (r := 71) rfl rfl (Or.inr rfl) rfl (by decide) rfl rfl ?_
      refine wp_run 2 (pc' := 38) (ls' := [.ref 0, .int 0, .int x2, .int 3, .int x4, .int x5, .ref 65, .ref 71]) (st' := [.ref 65]) rfl ?_
      refine wp_callV (o := 65) (as := []) (rest := []) (els := [.ref 65]) rfl rfl rfl rfl rfl rfl rfl rfl (by omega) ?_
      refine wp_run 1 (pc' := 1) (ls' := [.ref 65]) (st' := [.ref 65]) rfl ?_
      refine wp_geti (a := 1) (h 65 1) rfl rfl rfl rfl ?_
      refine wp_if rfl (fun (cqz0 : ¬ (h 65 1) = 0) => ?_) (fun (cqz0 : ¬ (¬ (h 65 1) = 0)) => ?_)
      · skip
        refine wp_run 1 (pc' := 12) (ls' := [.ref 65]) (st' := [.int 0]) rfl ?_
        refine wp_retz rfl (Or.inl rfl) ?_
        show am_wp L xs _ _ _ _ 41 [.ref 0, .int 0, .int x2, .int 3, .int x4, .int x5, .ref 65, .ref 71] [.int 0] (am_S b) h _
        refine wp_if_f rfl (show ¬ (¬ (0 : Int32) = 0) from by decide) ?_
        refine wp_run 1 (pc' := 46) (ls' := [.ref 0, .int 0, .int x2, .int 3, .int x4, .int x5, .ref 65, .ref 71]) (st' := [.ref 71]) rfl ?_
        refine wp_callV (o := 71) (as := []) (rest := []) (els := [.ref 71]) rfl rfl rfl rfl rfl rfl rfl rfl (by omega) ?_
        refine wp_run 1 (pc' := 1) (ls' := [.ref 71]) (st' := [.ref 71]) rfl ?_
        refine wp_geti (a := 1) (h 71 1) rfl rfl rfl rfl ?_
        refine wp_if rfl (fun (cqz1 : ¬ (h 71 1) = 0) => ?_) (fun (cqz1 : ¬ (¬ (h 71 1) = 0)) => ?_)
        · skip
          refine wp_run 1 (pc' := 12) (ls' := [.ref 71]) (st' := [.int 0]) rfl ?_
          refine wp_retz rfl (Or.inl rfl) ?_
          show am_wp L xs _ _ _ _ 49 [.ref 0, .int 0, .int x2, .int 3, .int x4, .int x5, .ref 65, .ref 71] [.int 0] (am_S b) h _
          refine wp_if_t rfl (show (0 : Int32) = 0 from by decide) ?_
          refine wp_run 1 (pc' := 60) (ls' := [.ref 0, .int 0, .int x2, .int 3, .int x4, .int x5, .ref 65, .ref 71]) (st' := [.ref 65]) rfl ?_
          refine wp_geti (a := 1) (h 65 1) rfl rfl rfl rfl ?_
          refine wp_run 1 (pc' := 65) (ls' := [.ref 0, .int 0, .int x2, .int 3, .int x4, .int x5, .ref 65, .ref 71]) (st' := [.ref 71, .int (h 65 1)]) rfl ?_
          refine wp_geti (a := 1) (h 71 1) rfl rfl rfl rfl ?_
          refine wp_icmp rfl (fun (cqe : (h 65 1) = (h 71 1)) => ?_) (fun (cqe : ¬ ((h 65 1) = (h 71 1))) => ?_)
          · skip
            refine wp_run 3 (pc' := 82) (ls' := [.ref 0, .int 0, .int x2, .int 3, .int x4, .int x5, .ref 65, .ref 71]) (st' := [.int x5, .int x2, .ref 65]) rfl ?_
            refine wp_callV (o := 65) (as := [.int x2, .int x5]) (rest := []) (els := [.ref 65, .int x2, .int x5]) rfl rfl rfl rfl rfl rfl rfl rfl (by omega) ?_
            refine sp_holds (h := h) (o := 65) (l := l) rfl ho2 hl24 (by omega) ?_ ?_
            · skip
              intro k2 k5 e5 e2 hle1
              subst e5
              subst e2
              show am_wp L xs _ _ _ _ 85 [.ref 0, .int 0, .int (nI k2), .int 3, .int x4, .int (nI k5), .ref 65, .ref 71] [.int 1] (am_S b) h _
              refine wp_if_f rfl (show ¬ ((1 : Int32) = 0) from by decide) ?_
              refine wp_run 3 (pc' := 94) (ls' := [.ref 0, .int 0, .int (nI k2), .int 3, .int x4, .int (nI k5), .ref 65, .ref 71]) (st' := [.int (nI k5), .int x4, .ref 71]) rfl ?_
              refine wp_callV (o := 71) (as := [.int x4, .int (nI k5)]) (rest := []) (els := [.ref 71, .int x4, .int (nI k5)]) rfl rfl rfl rfl rfl rfl rfl rfl (by omega) ?_
              refine sp_holds (h := h) (o := 71) (l := lB) rfl ho2B hl24B (by omega) ?_ ?_
              · skip
                intro k4 n4 q1 e4 hle2
                have en := pu_inj (by omega) (by omega) q1
                subst en
                subst e4
                show am_wp L xs _ _ _ _ 97 [.ref 0, .int 0, .int (nI k2), .int 3, .int (nI k4), .int (nI k5), .ref 65, .ref 71] [.int 1] (am_S b) h _
                refine wp_if_t rfl (show ¬ (1 : Int32) = 0 from by decide) ?_
                refine wp_run 1 (pc' := 108) (ls' := [.ref 0, .int 0, .int (nI k2), .int 3, .int (nI k4), .int (nI k5), .ref 65, .ref 71]) (st' := [.ref 65]) rfl ?_
                refine wp_getr 66 rfl rfl rfl ?_
                refine wp_run 2 (pc' := 114) (ls' := [.ref 0, .int 0, .int (nI k2), .int 3, .int (nI k4), .int (nI k5), .ref 65, .ref 71]) (st' := [.ref 71, .int (nI k2), .ref 66]) rfl ?_
                refine wp_getr 72 rfl rfl rfl ?_
                refine wp_run 2 (pc' := 121) (ls' := [.ref 0, .int 0, .int (nI k2), .int 3, .int (nI k4), .int (nI k5), .ref 65, .ref 71]) (st' := [.int (nI k5), .int (nI k4), .ref 72, .int (nI k2), .ref 66]) rfl ?_
                refine wp_copy (q := 66) (o := 72) (sp := k2) (dp := k4) (n := k5) rfl rfl rfl rfl rfl rfl (by omega) (by omega) (by omega) (by omega) rfl (by omega) ?_
                refine wp_run 1 (pc' := 126) (ls' := [.ref 0, .int 0, .int (nI k2), .int 3, .int (nI k4), .int (nI k5), .ref 65, .ref 71]) (st' := [.int (nI k5)]) rfl ?_
                refine wp_ret rfl ?_
                refine kk _ _ _ (fun ms2 Q2 kk2 => ?_)
                refine wp_run 6 (pc' := 8) (ls' := [.ref 74, .int 0, .int (nI k2), .int 3, .int (nI k4), .int (nI k5), am_du, am_du, am_du]) (st' := [.int (nI k5), .int (nI k4), .int 3, .int (nI k2), .int 0, .ref 74]) rfl ?_
                refine wp_callV (o := 74) (as := [.int 0, .int (nI k2), .int 3, .int (nI k4), .int (nI k5)]) (rest := []) (els := [.ref 74, .int 0, .int (nI k2), .int 3, .int (nI k4), .int (nI k5), am_du]) rfl rfl rfl rfl rfl rfl rfl rfl (by omega) ?_
                refine wp_run 1 (pc' := 1) (ls' := [.ref 74, .int 0, .int (nI k2), .int 3, .int (nI k4), .int (nI k5), am_du]) (st' := [.int 0]) rfl ?_
                refine wp_callS (as := [.int 0]) (rest := []) (els := [.int 0]) rfl rfl rfl rfl rfl rfl rfl rfl (by omega) ?_
                refine sp_m_isSheet (by omega) (fun _ _ _ => ?_) (fun q => absurd rfl (q 0 (by omega)))
                show am_wp L xs _ _ _ _ 4 [.ref 74, .int 0, .int (nI k2), .int 3, .int (nI k4), .int (nI k5), am_du] [.int 1] (am_S b) (am_ur h 72 (va_cpy (h 66) (h 72) k2 k4 k5)) _
                refine wp_if_f rfl (show ¬ ((1 : Int32) = 0) from by decide) ?_
                refine wp_run 1 (pc' := 8) (ls' := [.ref 74, .int 0, .int (nI k2), .int 3, .int (nI k4), .int (nI k5), am_du]) (st' := [.int 3]) rfl ?_
                refine wp_callS (as := [.int 3]) (rest := []) (els := [.int 3]) rfl rfl rfl rfl rfl rfl rfl rfl (by omega) ?_
                refine sp_m_isSheet (by omega) (fun _ _ _ => ?_) (fun q => absurd rfl (q 3 (by omega)))
                show am_wp L xs _ _ _ _ 11 [.ref 74, .int 0, .int (nI k2), .int 3, .int (nI k4), .int (nI k5), am_du] [.int 1] (am_S b) (am_ur h 72 (va_cpy (h 66) (h 72) k2 k4 k5)) _
                refine wp_if_t rfl (show ¬ (1 : Int32) = 0 from by decide) ?_
                refine wp_run 1 (pc' := 18) (ls' := [.ref 74, .int 0, .int (nI k2), .int 3, .int (nI k4), .int (nI k5), am_du]) (st' := [.ref 74]) rfl ?_
                refine wp_getr 78 rfl rfl rfl ?_
                refine wp_run 1 (pc' := 22) (ls' := [.ref 74, .int 0, .int (nI k2), .int 3, .int (nI k4), .int (nI k5), am_du]) (st' := [.int 0, .ref 78]) rfl ?_
                refine wp_ald (i := 0) (h 78 0) rfl rfl rfl rfl (by decide) rfl ?_
                refine wp_if_f rfl (show ¬ ((h 78 0) = 0) from (fun q => cqz0 (hob.trans q))) ?_
                refine wp_run 1 (pc' := 27) (ls' := [.ref 74, .int 0, .int (nI k2), .int 3, .int (nI k4), .int (nI k5), am_du]) (st' := [.ref 74]) rfl ?_
                refine wp_getr 78 rfl rfl rfl ?_
                refine wp_run 1 (pc' := 31) (ls' := [.ref 74, .int 0, .int (nI k2), .int 3, .int (nI k4), .int (nI k5), am_du]) (st' := [.int 3, .ref 78]) rfl ?_
                refine wp_ald (i := 3) (h 78 3) rfl rfl rfl rfl (by decide) rfl ?_
                refine wp_if_t rfl (show ¬ (h 78 3) = 0 from (fun q => cqz1 (hobB.trans q))) ?_
                refine wp_run 1 (pc' := 39) (ls' := [.ref 74, .int 0, .int (nI k2), .int 3, .int (nI k4), .int (nI k5), am_du]) (st' := [.ref 74]) rfl ?_
                refine wp_getr 78 rfl rfl rfl ?_
                refine wp_run 1 (pc' := 43) (ls' := [.ref 74, .int 0, .int (nI k2), .int 3, .int (nI k4), .int (nI k5), am_du]) (st' := [.int 0, .ref 78]) rfl ?_
                refine wp_ald (i := 0) (h 78 0) rfl rfl rfl rfl (by decide) rfl ?_
                refine wp_run 1 (pc' := 45) (ls' := [.ref 74, .int 0, .int (nI k2), .int 3, .int (nI k4), .int (nI k5), am_du]) (st' := [.ref 74, .int (h 78 0)]) rfl ?_
                refine wp_getr 78 rfl rfl rfl ?_
                refine wp_run 1 (pc' := 49) (ls' := [.ref 74, .int 0, .int (nI k2), .int 3, .int (nI k4), .int (nI k5), am_du]) (st' := [.int 3, .ref 78, .int (h 78 0)]) rfl ?_
                refine wp_ald (i := 3) (h 78 3) rfl rfl rfl rfl (by decide) rfl ?_
                refine wp_icmp_t rfl (show (h 78 0) = (h 78 3) from (hob.symm.trans (cqe.trans hobB))) ?_
                refine wp_run 1 (pc' := 58) (ls' := [.ref 74, .int 0, .int (nI k2), .int 3, .int (nI k4), .int (nI k5), am_du]) (st' := [.int (nI k5)]) rfl ?_
                refine wp_if_f rfl (show ¬ ((nI k5) < 0) from mt (nI_ltI (a := k5) (b := 0) (by omega) (by omega)).mp (by omega)) ?_
                refine wp_run 1 (pc' := 62) (ls' := [.ref 74, .int 0, .int (nI k2), .int 3, .int (nI k4), .int (nI k5), am_du]) (st' := [.int (nI k2)]) rfl ?_
                refine wp_if_f rfl (show ¬ ((nI k2) < 0) from mt (nI_ltI (a := k2) (b := 0) (by omega) (by omega)).mp (by omega)) ?_
                refine wp_run 1 (pc' := 67) (ls' := [.ref 74, .int 0, .int (nI k2), .int 3, .int (nI k4), .int (nI k5), am_du]) (st' := [.int (nI k4)]) rfl ?_
                refine wp_if_f rfl (show ¬ ((nI k4) < 0) from mt (nI_ltI (a := k4) (b := 0) (by omega) (by omega)).mp (by omega)) ?_
                refine wp_run 2 (pc' := 73) (ls' := [.ref 74, .int 0, .int (nI k2), .int 3, .int (nI k4), .int (nI k5), am_du]) (st' := [.ref 74, .int (nI k5)]) rfl ?_
                refine wp_getr 79 rfl rfl rfl ?_
                refine wp_run 1 (pc' := 77) (ls' := [.ref 74, .int 0, .int (nI k2), .int 3, .int (nI k4), .int (nI k5), am_du]) (st' := [.int 0, .ref 79, .int (nI k5)]) rfl ?_
                refine wp_ald (i := 0) (nI l) hz2 rfl rfl rfl (by decide) rfl ?_
                refine wp_run 2 (pc' := 80) (ls' := [.ref 74, .int 0, .int (nI k2), .int 3, .int (nI k4), .int (nI k5), am_du]) (st' := [.int ((nI l) - (nI k2)), .int (nI k5)]) rfl ?_
                refine wp_icmp_f rfl (show ¬ (((nI l) - (nI k2)) < (nI k5)) from Int32.not_lt.mpr ((pu_suble (by omega) (by omega) hl24).mpr (by omega))) ?_
                refine wp_run 2 (pc' := 86) (ls' := [.ref 74, .int 0, .int (nI k2), .int 3, .int (nI k4), .int (nI k5), am_du]) (st' := [.ref 74, .int (nI k5)]) rfl ?_
                refine wp_getr 79 rfl rfl rfl ?_
                refine wp_run 1 (pc' := 90) (ls' := [.ref 74, .int 0, .int (nI k2), .int 3, .int (nI k4), .int (nI k5), am_du]) (st' := [.int 3, .ref 79, .int (nI k5)]) rfl ?_
                refine wp_ald (i := 3) (nI lB) hz2B rfl rfl rfl (by decide) rfl ?_
                refine wp_run 2 (pc' := 94) (ls' := [.ref 74, .int 0, .int (nI k2), .int 3, .int (nI k4), .int (nI k5), am_du]) (st' := [.int ((nI lB) - (nI k4)), .int (nI k5)]) rfl ?_
                refine wp_icmp_f rfl (show ¬ (((nI lB) - (nI k4)) < (nI k5)) from Int32.not_lt.mpr ((pu_suble (by omega) (by omega) hl24B).mpr (by omega))) ?_
                refine wp_run 4 (pc' := 106) (ls' := [.ref 74, .int 0, .int (nI k2), .int 3, .int (nI k4), .int (nI k5), .int 1]) (st' := [.int 1]) rfl ?_
                refine wp_if_f rfl (show ¬ ((1 : Int32) = 0) from by decide) ?_
                refine wp_run 2 (pc' := 115) (ls' := [.ref 74, .int 0, .int (nI k2), .int 3, .int (nI k4), .int (nI k5), .int 1]) (st' := [.int 0]) rfl ?_
                refine wp_ret rfl ?_
                show am_wp L xs _ _ _ _ 11 [.ref 74, .int 0, .int (nI k2), .int 3, .int (nI k4), .int (nI k5), am_du, am_du, am_du] [.int 0] (am_S b) (am_ur h 72 (va_cpy (h 66) (h 72) k2 k4 k5)) _
                refine wp_run 2 (pc' := 15) (ls' := [.ref 74, .int 0, .int (nI k2), .int 3, .int (nI k4), .int (nI k5), .int 0, am_du, am_du]) (st' := [.int 0]) rfl ?_
                refine wp_if_t rfl (show (0 : Int32) = 0 from by decide) ?_
                refine wp_run 2 (pc' := 28) (ls' := [.ref 74, .int 0, .int (nI k2), .int 3, .int (nI k4), .int (nI k5), .int 0, .int 0, am_du]) (st' := []) rfl ?_
                by_cases hij : k2 < k4
                · have hp := lp_mvd (L := L) (xs := xs) (d := d) (ms := ms2) (b := b) (h := (am_ur h 72 (va_cpy (h 66) (h 72) k2 k4 k5))) (Q := Q2) (s := 0) (o := 3) (i := k2) (j := k4) (n := k5) (by omega) (by omega) (by omega) (by omega) hij (by omega) ?_ k5 0 am_du (by omega)
                  · rw [mv_d0] at hp; exact hp
                  · exact kk2 _ _ ⟨⟨n, c, t, tp, wt, s0, s1, p0, p1, H⟩, re_im_s hI, hE, (re_sh_mo hS0 (by decide) (by omega)), (re_sh_mo hS1 (by decide) (by omega)), (re_sh_mo hS2 (by decide) (by omega)), (re_sh_m hS0 hS3 (by omega) (by omega)), hT⟩
                · have hp := lp_mva (L := L) (xs := xs) (d := d) (ms := ms2) (b := b) (h := (am_ur h 72 (va_cpy (h 66) (h 72) k2 k4 k5))) (Q := Q2) (s := 0) (o := 3) (i := k2) (j := k4) (n := k5) (by omega) (by omega) (by omega) (by omega) hij (by omega) ?_ k5 0 am_du (by omega)
                  · rw [mv_a0] at hp; exact hp
                  · exact kk2 _ _ ⟨⟨n, c, t, tp, wt, s0, s1, p0, p1, H⟩, re_im_s hI, hE, (re_sh_mo hS0 (by decide) (by omega)), (re_sh_mo hS1 (by decide) (by omega)), (re_sh_mo hS2 (by decide) (by omega)), (re_sh_m hS0 hS3 (by omega) (by omega)), hT⟩
              · skip
                intro hno2
                show am_wp L xs _ _ _ _ 97 [.ref 0, .int 0, .int (nI k2), .int 3, .int x4, .int (nI k5), .ref 65, .ref 71] [.int 0] (am_S b) h _
                refine wp_if_f rfl (show ¬ (¬ (0 : Int32) = 0) from by decide) ?_
                refine wp_run 2 (pc' := 102) (ls' := [.ref 0, .int 0, .int (nI k2), .int 3, .int x4, .int (nI k5), .ref 65, .ref 71]) (st' := [.int 1, .ref 0]) rfl ?_
                refine wp_callV (o := 0) (as := [.int 1]) (rest := []) (els := [.ref 0, .int 1]) rfl rfl rfl rfl rfl rfl rfl rfl (by omega) ?_
                refine sp_refuse1 (by omega) ?_
                show am_wp L xs _ _ _ _ 105 [.ref 0, .int 0, .int (nI k2), .int 3, .int x4, .int (nI k5), .ref 65, .ref 71] [.int (-1000000001)] (am_S b) (am_u h 73 1 (h 73 1 + 1)) _
                refine wp_ret rfl ?_
                refine kk _ _ _ (fun ms2 Q2 kk2 => ?_)
                refine wp_run 6 (pc' := 8) (ls' := [.ref 74, .int 0, .int (nI k2), .int 3, .int x4, .int (nI k5), am_du, am_du, am_du]) (st' := [.int (nI k5), .int x4, .int 3, .int (nI k2), .int 0, .ref 74]) rfl ?_
                refine wp_callV (o := 74) (as := [.int 0, .int (nI k2), .int 3, .int x4, .int (nI k5)]) (rest := []) (els := [.ref 74, .int 0, .int (nI k2), .int 3, .int x4, .int (nI k5), am_du]) rfl rfl rfl rfl rfl rfl rfl rfl (by omega) ?_
                refine wp_run 1 (pc' := 1) (ls' := [.ref 74, .int 0, .int (nI k2), .int 3, .int x4, .int (nI k5), am_du]) (st' := [.int 0]) rfl ?_
                refine wp_callS (as := [.int 0]) (rest := []) (els := [.int 0]) rfl rfl rfl rfl rfl rfl rfl rfl (by omega) ?_
                refine sp_m_isSheet (by omega) (fun _ _ _ => ?_) (fun q => absurd rfl (q 0 (by omega)))
                show am_wp L xs _ _ _ _ 4 [.ref 74, .int 0, .int (nI k2), .int 3, .int x4, .int (nI k5), am_du] [.int 1] (am_S b) (am_u h 73 1 (h 73 1 + 1)) _
                refine wp_if_f rfl (show ¬ ((1 : Int32) = 0) from by decide) ?_
                refine wp_run 1 (pc' := 8) (ls' := [.ref 74, .int 0, .int (nI k2), .int 3, .int x4, .int (nI k5), am_du]) (st' := [.int 3]) rfl ?_
                refine wp_callS (as := [.int 3]) (rest := []) (els := [.int 3]) rfl rfl rfl rfl rfl rfl rfl rfl (by omega) ?_
                refine sp_m_isSheet (by omega) (fun _ _ _ => ?_) (fun q => absurd rfl (q 3 (by omega)))
                show am_wp L xs _ _ _ _ 11 [.ref 74, .int 0, .int (nI k2), .int 3, .int x4, .int (nI k5), am_du] [.int 1] (am_S b) (am_u h 73 1 (h 73 1 + 1)) _
                refine wp_if_t rfl (show ¬ (1 : Int32) = 0 from by decide) ?_
                refine wp_run 1 (pc' := 18) (ls' := [.ref 74, .int 0, .int (nI k2), .int 3, .int x4, .int (nI k5), am_du]) (st' := [.ref 74]) rfl ?_
                refine wp_getr 78 rfl rfl rfl ?_
                refine wp_run 1 (pc' := 22) (ls' := [.ref 74, .int 0, .int (nI k2), .int 3, .int x4, .int (nI k5), am_du]) (st' := [.int 0, .ref 78]) rfl ?_
                refine wp_ald (i := 0) (h 78 0) rfl rfl rfl rfl (by decide) rfl ?_
                refine wp_if_f rfl (show ¬ ((h 78 0) = 0) from (fun q => cqz0 (hob.trans q))) ?_
                refine wp_run 1 (pc' := 27) (ls' := [.ref 74, .int 0, .int (nI k2), .int 3, .int x4, .int (nI k5), am_du]) (st' := [.ref 74]) rfl ?_
                refine wp_getr 78 rfl rfl rfl ?_
                refine wp_run 1 (pc' := 31) (ls' := [.ref 74, .int 0, .int (nI k2), .int 3, .int x4, .int (nI k5), am_du]) (st' := [.int 3, .ref 78]) rfl ?_
                refine wp_ald (i := 3) (h 78 3) rfl rfl rfl rfl (by decide) rfl ?_
                refine wp_if_t rfl (show ¬ (h 78 3) = 0 from (fun q => cqz1 (hobB.trans q))) ?_
                refine wp_run 1 (pc' := 39) (ls' := [.ref 74, .int 0, .int (nI k2), .int 3, .int x4, .int (nI k5), am_du]) (st' := [.ref 74]) rfl ?_
                refine wp_getr 78 rfl rfl rfl ?_
                refine wp_run 1 (pc' := 43) (ls' := [.ref 74, .int 0, .int (nI k2), .int 3, .int x4, .int (nI k5), am_du]) (st' := [.int 0, .ref 78]) rfl ?_
                refine wp_ald (i := 0) (h 78 0) rfl rfl rfl rfl (by decide) rfl ?_
                refine wp_run 1 (pc' := 45) (ls' := [.ref 74, .int 0, .int (nI k2), .int 3, .int x4, .int (nI k5), am_du]) (st' := [.ref 74, .int (h 78 0)]) rfl ?_
                refine wp_getr 78 rfl rfl rfl ?_
                refine wp_run 1 (pc' := 49) (ls' := [.ref 74, .int 0, .int (nI k2), .int 3, .int x4, .int (nI k5), am_du]) (st' := [.int 3, .ref 78, .int (h 78 0)]) rfl ?_
                refine wp_ald (i := 3) (h 78 3) rfl rfl rfl rfl (by decide) rfl ?_
                refine wp_icmp_t rfl (show (h 78 0) = (h 78 3) from (hob.symm.trans (cqe.trans hobB))) ?_
                refine wp_run 1 (pc' := 58) (ls' := [.ref 74, .int 0, .int (nI k2), .int 3, .int x4, .int (nI k5), am_du]) (st' := [.int (nI k5)]) rfl ?_
                refine wp_if_f rfl (show ¬ ((nI k5) < 0) from mt (nI_ltI (a := k5) (b := 0) (by omega) (by omega)).mp (by omega)) ?_
                refine wp_run 1 (pc' := 62) (ls' := [.ref 74, .int 0, .int (nI k2), .int 3, .int x4, .int (nI k5), am_du]) (st' := [.int (nI k2)]) rfl ?_
                refine wp_if_f rfl (show ¬ ((nI k2) < 0) from mt (nI_ltI (a := k2) (b := 0) (by omega) (by omega)).mp (by omega)) ?_
                refine wp_run 1 (pc' := 67) (ls' := [.ref 74, .int 0, .int (nI k2), .int 3, .int x4, .int (nI k5), am_du]) (st' := [.int x4]) rfl ?_
                refine wp_if rfl (fun (cq67 : x4 < 0) => ?_) (fun (cq67 : ¬ (x4 < 0)) => ?_)
                · skip
                  refine wp_run 3 (pc' := 106) (ls' := [.ref 74, .int 0, .int (nI k2), .int 3, .int x4, .int (nI k5), .int 0]) (st' := [.int 0]) rfl ?_
                  refine wp_if_t rfl (show (0 : Int32) = 0 from by decide) ?_
                  refine wp_run 1 (pc' := 115) (ls' := [.ref 74, .int 0, .int (nI k2), .int 3, .int x4, .int (nI k5), .int 0]) (st' := [.int (-1000000001)]) rfl ?_
                  refine wp_ret rfl ?_
                  show am_wp L xs _ _ _ _ 11 [.ref 74, .int 0, .int (nI k2), .int 3, .int x4, .int (nI k5), am_du, am_du, am_du] [.int (-1000000001)] (am_S b) (am_u h 73 1 (h 73 1 + 1)) _
                  refine wp_run 2 (pc' := 15) (ls' := [.ref 74, .int 0, .int (nI k2), .int 3, .int x4, .int (nI k5), .int (-1000000001), am_du, am_du]) (st' := [.int (-1000000001)]) rfl ?_
                  refine wp_if_f rfl (show ¬ (((-1000000001) : Int32) = 0) from by decide) ?_
                  refine wp_run 2 (pc' := 21) (ls' := [.ref 74, .int 0, .int (nI k2), .int 3, .int x4, .int (nI k5), .int (-1000000001), am_du, am_du]) (st' := [.int (-1000000001), .ref 74]) rfl ?_
                  refine wp_callV (o := 74) (as := [.int (-1000000001)]) (rest := []) (els := [.ref 74, .int (-1000000001)]) rfl rfl rfl rfl rfl rfl rfl rfl (by omega) ?_
                  refine sp_error1 ?_
                  show am_wp L xs _ _ _ _ 24 [.ref 74, .int 0, .int (nI k2), .int 3, .int x4, .int (nI k5), .int (-1000000001), am_du, am_du] [.int (-1000000001)] (am_S b) (am_u (am_u h 73 1 (h 73 1 + 1)) 77 1 ((am_u h 73 1 (h 73 1 + 1)) 77 1 + 1)) _
                  refine wp_ret rfl ?_
                  exact kk2 _ _ (re_err1 hR)
                · skip
                  obtain ⟨k4, hk4, ek4⟩ := pu_nonneg (Int32.not_lt.mp cq67)
                  subst ek4
                  refine wp_run 2 (pc' := 73) (ls' := [.ref 74, .int 0, .int (nI k2), .int 3, .int (nI k4), .int (nI k5), am_du]) (st' := [.ref 74, .int (nI k5)]) rfl ?_
                  refine wp_getr 79 rfl rfl rfl ?_
                  refine wp_run 1 (pc' := 77) (ls' := [.ref 74, .int 0, .int (nI k2), .int 3, .int (nI k4), .int (nI k5), am_du]) (st' := [.int 0, .ref 79, .int (nI k5)]) rfl ?_
                  refine wp_ald (i := 0) (nI l) hz2 rfl rfl rfl (by decide) rfl ?_
                  refine wp_run 2 (pc' := 80) (ls' := [.ref 74, .int 0, .int (nI k2), .int 3, .int (nI k4), .int (nI k5), am_du]) (st' := [.int ((nI l) - (nI k2)), .int (nI k5)]) rfl ?_
                  refine wp_icmp_f rfl (show ¬ (((nI l) - (nI k2)) < (nI k5)) from Int32.not_lt.mpr ((pu_suble (by omega) (by omega) hl24).mpr (by omega))) ?_
                  refine wp_run 2 (pc' := 86) (ls' := [.ref 74, .int 0, .int (nI k2), .int 3, .int (nI k4), .int (nI k5), am_du]) (st' := [.ref 74, .int (nI k5)]) rfl ?_
                  refine wp_getr 79 rfl rfl rfl ?_
                  refine wp_run 1 (pc' := 90) (ls' := [.ref 74, .int 0, .int (nI k2), .int 3, .int (nI k4), .int (nI k5), am_du]) (st' := [.int 3, .ref 79, .int (nI k5)]) rfl ?_
                  refine wp_ald (i := 3) (nI lB) hz2B rfl rfl rfl (by decide) rfl ?_
                  refine wp_run 2 (pc' := 94) (ls' := [.ref 74, .int 0, .int (nI k2), .int 3, .int (nI k4), .int (nI k5), am_du]) (st' := [.int ((nI lB) - (nI k4)), .int (nI k5)]) rfl ?_
                  refine wp_icmp_t rfl (show ((nI lB) - (nI k4)) < (nI k5) from Int32.not_le.mp (fun q => hno2 k4 k5 rfl rfl (by have := (pu_suble (by omega) (by omega) hl24B).mp q; omega))) ?_
                  refine wp_run 3 (pc' := 106) (ls' := [.ref 74, .int 0, .int (nI k2), .int 3, .int (nI k4), .int (nI k5), .int 0]) (st' := [.int 0]) rfl ?_
                  refine wp_if_t rfl (show (0 : Int32) = 0 from by decide) ?_
                  refine wp_run 1 (pc' := 115) (ls' := [.ref 74, .int 0, .int (nI k2), .int 3, .int (nI k4), .int (nI k5), .int 0]) (st' := [.int (-1000000001)]) rfl ?_
                  refine wp_ret rfl ?_
                  show am_wp L xs _ _ _ _ 11 [.ref 74, .int 0, .int (nI k2), .int 3, .int (nI k4), .int (nI k5), am_du, am_du, am_du] [.int (-1000000001)] (am_S b) (am_u h 73 1 (h 73 1 + 1)) _
                  refine wp_run 2 (pc' := 15) (ls' := [.ref 74, .int 0, .int (nI k2), .int 3, .int (nI k4), .int (nI k5), .int (-1000000001), am_du, am_du]) (st' := [.int (-1000000001)]) rfl ?_
                  refine wp_if_f rfl (show ¬ (((-1000000001) : Int32) = 0) from by decide) ?_
                  refine wp_run 2 (pc' := 21) (ls' := [.ref 74, .int 0, .int (nI k2), .int 3, .int (nI k4), .int (nI k5), .int (-1000000001), am_du, am_du]) (st' := [.int (-1000000001), .ref 74]) rfl ?_
                  refine wp_callV (o := 74) (as := [.int (-1000000001)]) (rest := []) (els := [.ref 74, .int (-1000000001)]) rfl rfl rfl rfl rfl rfl rfl rfl (by omega) ?_
                  refine sp_error1 ?_
                  show am_wp L xs _ _ _ _ 24 [.ref 74, .int 0, .int (nI k2), .int 3, .int (nI k4), .int (nI k5), .int (-1000000001), am_du, am_du] [.int (-1000000001)] (am_S b) (am_u (am_u h 73 1 (h 73 1 + 1)) 77 1 ((am_u h 73 1 (h 73 1 + 1)) 77 1 + 1)) _
                  refine wp_ret rfl ?_
                  exact kk2 _ _ (re_err1 hR)
            · skip
              intro hno1
              show am_wp L xs _ _ _ _ 85 [.ref 0, .int 0, .int x2, .int 3, .int x4, .int x5, .ref 65, .ref 71] [.int 0] (am_S b) h _
              refine wp_if_t rfl (show (0 : Int32) = 0 from by decide) ?_
              refine wp_run 2 (pc' := 102) (ls' := [.ref 0, .int 0, .int x2, .int 3, .int x4, .int x5, .ref 65, .ref 71]) (st' := [.int 1, .ref 0]) rfl ?_
              refine wp_callV (o := 0) (as := [.int 1]) (rest := []) (els := [.ref 0, .int 1]) rfl rfl rfl rfl rfl rfl rfl rfl (by omega) ?_
              refine sp_refuse1 (by omega) ?_
              show am_wp L xs _ _ _ _ 105 [.ref 0, .int 0, .int x2, .int 3, .int x4, .int x5, .ref 65, .ref 71] [.int (-1000000001)] (am_S b) (am_u h 73 1 (h 73 1 + 1)) _
              refine wp_ret rfl ?_
              refine kk _ _ _ (fun ms2 Q2 kk2 => ?_)
              refine wp_run 6 (pc' := 8) (ls' := [.ref 74, .int 0, .int x2, .int 3, .int x4, .int x5, am_du, am_du, am_du]) (st' := [.int x5, .int x4, .int 3, .int x2, .int 0, .ref 74]) rfl ?_
              refine wp_callV (o := 74) (as := [.int 0, .int x2, .int 3, .int x4, .int x5]) (rest := []) (els := [.ref 74, .int 0, .int x2, .int 3, .int x4, .int x5, am_du]) rfl rfl rfl rfl rfl rfl rfl rfl (by omega) ?_
              refine wp_run 1 (pc' := 1) (ls' := [.ref 74, .int 0, .int x2, .int 3, .int x4, .int x5, am_du]) (st' := [.int 0]) rfl ?_
              refine wp_callS (as := [.int 0]) (rest := []) (els := [.int 0]) rfl rfl rfl rfl rfl rfl rfl rfl (by omega) ?_
              refine sp_m_isSheet (by omega) (fun _ _ _ => ?_) (fun q => absurd rfl (q 0 (by omega)))
              show am_wp L xs _ _ _ _ 4 [.ref 74, .int 0, .int x2, .int 3, .int x4, .int x5, am_du] [.int 1] (am_S b) (am_u h 73 1 (h 73 1 + 1)) _
              refine wp_if_f rfl (show ¬ ((1 : Int32) = 0) from by decide) ?_
              refine wp_run 1 (pc' := 8) (ls' := [.ref 74, .int 0, .int x2, .int 3, .int x4, .int x5, am_du]) (st' := [.int 3]) rfl ?_
              refine wp_callS (as := [.int 3]) (rest := []) (els := [.int 3]) rfl rfl rfl rfl rfl rfl rfl rfl (by omega) ?_
              refine sp_m_isSheet (by omega) (fun _ _ _ => ?_) (fun q => absurd rfl (q 3 (by omega)))
              show am_wp L xs _ _ _ _ 11 [.ref 74, .int 0, .int x2, .int 3, .int x4, .int x5, am_du] [.int 1] (am_S b) (am_u h 73 1 (h 73 1 + 1)) _
              refine wp_if_t rfl (show ¬ (1 : Int32) = 0 from by decide) ?_
              refine wp_run 1 (pc' := 18) (ls' := [.ref 74, .int 0, .int x2, .int 3, .int x4, .int x5, am_du]) (st' := [.ref 74]) rfl ?_
              refine wp_getr 78 rfl rfl rfl ?_
              refine wp_run 1 (pc' := 22) (ls' := [.ref 74, .int 0, .int x2, .int 3, .int x4, .int x5, am_du]) (st' := [.int 0, .ref 78]) rfl ?_
              refine wp_ald (i := 0) (h 78 0) rfl rfl rfl rfl (by decide) rfl ?_
              refine wp_if_f rfl (show ¬ ((h 78 0) = 0) from (fun q => cqz0 (hob.trans q))) ?_
              refine wp_run 1 (pc' := 27) (ls' := [.ref 74, .int 0, .int x2, .int 3, .int x4, .int x5, am_du]) (st' := [.ref 74]) rfl ?_
              refine wp_getr 78 rfl rfl rfl ?_
              refine wp_run 1 (pc' := 31) (ls' := [.ref 74, .int 0, .int x2, .int 3, .int x4, .int x5, am_du]) (st' := [.int 3, .ref 78]) rfl ?_
              refine wp_ald (i := 3) (h 78 3) rfl rfl rfl rfl (by decide) rfl ?_
              refine wp_if_t rfl (show ¬ (h 78 3) = 0 from (fun q => cqz1 (hobB.trans q))) ?_
              refine wp_run 1 (pc' := 39) (ls' := [.ref 74, .int 0, .int x2, .int 3, .int x4, .int x5, am_du]) (st' := [.ref 74]) rfl ?_
              refine wp_getr 78 rfl rfl rfl ?_
              refine wp_run 1 (pc' := 43) (ls' := [.ref 74, .int 0, .int x2, .int 3, .int x4, .int x5, am_du]) (st' := [.int 0, .ref 78]) rfl ?_
              refine wp_ald (i := 0) (h 78 0) rfl rfl rfl rfl (by decide) rfl ?_
              refine wp_run 1 (pc' := 45) (ls' := [.ref 74, .int 0, .int x2, .int 3, .int x4, .int x5, am_du]) (st' := [.ref 74, .int (h 78 0)]) rfl ?_
              refine wp_getr 78 rfl rfl rfl ?_
              refine wp_run 1 (pc' := 49) (ls' := [.ref 74, .int 0, .int x2, .int 3, .int x4, .int x5, am_du]) (st' := [.int 3, .ref 78, .int (h 78 0)]) rfl ?_
              refine wp_ald (i := 3) (h 78 3) rfl rfl rfl rfl (by decide) rfl ?_
              refine wp_icmp_t rfl (show (h 78 0) = (h 78 3) from (hob.symm.trans (cqe.trans hobB))) ?_
              refine wp_run 1 (pc' := 58) (ls' := [.ref 74, .int 0, .int x2, .int 3, .int x4, .int x5, am_du]) (st' := [.int x5]) rfl ?_
              refine wp_if rfl (fun (cq58 : x5 < 0) => ?_) (fun (cq58 : ¬ (x5 < 0)) => ?_)
              · skip
                refine wp_run 3 (pc' := 106) (ls' := [.ref 74, .int 0, .int x2, .int 3, .int x4, .int x5, .int 0]) (st' := [.int 0]) rfl ?_
                refine wp_if_t rfl (show (0 : Int32) = 0 from by decide) ?_
                refine wp_run 1 (pc' := 115) (ls' := [.ref 74, .int 0, .int x2, .int 3, .int x4, .int x5, .int 0]) (st' := [.int (-1000000001)]) rfl ?_
                refine wp_ret rfl ?_
                show am_wp L xs _ _ _ _ 11 [.ref 74, .int 0, .int x2, .int 3, .int x4, .int x5, am_du, am_du, am_du] [.int (-1000000001)] (am_S b) (am_u h 73 1 (h 73 1 + 1)) _
                refine wp_run 2 (pc' := 15) (ls' := [.ref 74, .int 0, .int x2, .int 3, .int x4, .int x5, .int (-1000000001), am_du, am_du]) (st' := [.int (-1000000001)]) rfl ?_
                refine wp_if_f rfl (show ¬ (((-1000000001) : Int32) = 0) from by decide) ?_
                refine wp_run 2 (pc' := 21) (ls' := [.ref 74, .int 0, .int x2, .int 3, .int x4, .int x5, .int (-1000000001), am_du, am_du]) (st' := [.int (-1000000001), .ref 74]) rfl ?_
                refine wp_callV (o := 74) (as := [.int (-1000000001)]) (rest := []) (els := [.ref 74, .int (-1000000001)]) rfl rfl rfl rfl rfl rfl rfl rfl (by omega) ?_
                refine sp_error1 ?_
                show am_wp L xs _ _ _ _ 24 [.ref 74, .int 0, .int x2, .int 3, .int x4, .int x5, .int (-1000000001), am_du, am_du] [.int (-1000000001)] (am_S b) (am_u (am_u h 73 1 (h 73 1 + 1)) 77 1 ((am_u h 73 1 (h 73 1 + 1)) 77 1 + 1)) _
                refine wp_ret rfl ?_
                exact kk2 _ _ (re_err1 hR)
              · skip
                obtain ⟨k5, hk5, ek5⟩ := pu_nonneg (Int32.not_lt.mp cq58)
                subst ek5
                refine wp_run 1 (pc' := 62) (ls' := [.ref 74, .int 0, .int x2, .int 3, .int x4, .int (nI k5), am_du]) (st' := [.int x2]) rfl ?_
                refine wp_if rfl (fun (cq62 : x2 < 0) => ?_) (fun (cq62 : ¬ (x2 < 0)) => ?_)
                · skip
                  refine wp_run 3 (pc' := 106) (ls' := [.ref 74, .int 0, .int x2, .int 3, .int x4, .int (nI k5), .int 0]) (st' := [.int 0]) rfl ?_
                  refine wp_if_t rfl (show (0 : Int32) = 0 from by decide) ?_
                  refine wp_run 1 (pc' := 115) (ls' := [.ref 74, .int 0, .int x2, .int 3, .int x4, .int (nI k5), .int 0]) (st' := [.int (-1000000001)]) rfl ?_
                  refine wp_ret rfl ?_
                  show am_wp L xs _ _ _ _ 11 [.ref 74, .int 0, .int x2, .int 3, .int x4, .int (nI k5), am_du, am_du, am_du] [.int (-1000000001)] (am_S b) (am_u h 73 1 (h 73 1 + 1)) _
                  refine wp_run 2 (pc' := 15) (ls' := [.ref 74, .int 0, .int x2, .int 3, .int x4, .int (nI k5), .int (-1000000001), am_du, am_du]) (st' := [.int (-1000000001)]) rfl ?_
                  refine wp_if_f rfl (show ¬ (((-1000000001) : Int32) = 0) from by decide) ?_
                  refine wp_run 2 (pc' := 21) (ls' := [.ref 74, .int 0, .int x2, .int 3, .int x4, .int (nI k5), .int (-1000000001), am_du, am_du]) (st' := [.int (-1000000001), .ref 74]) rfl ?_
                  refine wp_callV (o := 74) (as := [.int (-1000000001)]) (rest := []) (els := [.ref 74, .int (-1000000001)]) rfl rfl rfl rfl rfl rfl rfl rfl (by omega) ?_
                  refine sp_error1 ?_
                  show am_wp L xs _ _ _ _ 24 [.ref 74, .int 0, .int x2, .int 3, .int x4, .int (nI k5), .int (-1000000001), am_du, am_du] [.int (-1000000001)] (am_S b) (am_u (am_u h 73 1 (h 73 1 + 1)) 77 1 ((am_u h 73 1 (h 73 1 + 1)) 77 1 + 1)) _
                  refine wp_ret rfl ?_
                  exact kk2 _ _ (re_err1 hR)
                · skip
                  obtain ⟨k2, hk2, ek2⟩ := pu_nonneg (Int32.not_lt.mp cq62)
                  subst ek2
                  refine wp_run 1 (pc' := 67) (ls' := [.ref 74, .int 0, .int (nI k2), .int 3, .int x4, .int (nI k5), am_du]) (st' := [.int x4]) rfl ?_
                  refine wp_if rfl (fun (cq67 : x4 < 0) => ?_) (fun (cq67 : ¬ (x4 < 0)) => ?_)
                  · skip
                    refine wp_run 3 (pc' := 106) (ls' := [.ref 74, .int 0, .int (nI k2), .int 3, .int x4, .int (nI k5), .int 0]) (st' := [.int 0]) rfl ?_
                    refine wp_if_t rfl (show (0 : Int32) = 0 from by decide) ?_
                    refine wp_run 1 (pc' := 115) (ls' := [.ref 74, .int 0, .int (nI k2), .int 3, .int x4, .int (nI k5), .int 0]) (st' := [.int (-1000000001)]) rfl ?_
                    refine wp_ret rfl ?_
                    show am_wp L xs _ _ _ _ 11 [.ref 74, .int 0, .int (nI k2), .int 3, .int x4, .int (nI k5), am_du, am_du, am_du] [.int (-1000000001)] (am_S b) (am_u h 73 1 (h 73 1 + 1)) _
                    refine wp_run 2 (pc' := 15) (ls' := [.ref 74, .int 0, .int (nI k2), .int 3, .int x4, .int (nI k5), .int (-1000000001), am_du, am_du]) (st' := [.int (-1000000001)]) rfl ?_
                    refine wp_if_f rfl (show ¬ (((-1000000001) : Int32) = 0) from by decide) ?_
                    refine wp_run 2 (pc' := 21) (ls' := [.ref 74, .int 0, .int (nI k2), .int 3, .int x4, .int (nI k5), .int (-1000000001), am_du, am_du]) (st' := [.int (-1000000001), .ref 74]) rfl ?_
                    refine wp_callV (o := 74) (as := [.int (-1000000001)]) (rest := []) (els := [.ref 74, .int (-1000000001)]) rfl rfl rfl rfl rfl rfl rfl rfl (by omega) ?_
                    refine sp_error1 ?_
                    show am_wp L xs _ _ _ _ 24 [.ref 74, .int 0, .int (nI k2), .int 3, .int x4, .int (nI k5), .int (-1000000001), am_du, am_du] [.int (-1000000001)] (am_S b) (am_u (am_u h 73 1 (h 73 1 + 1)) 77 1 ((am_u h 73 1 (h 73 1 + 1)) 77 1 + 1)) _
                    refine wp_ret rfl ?_
                    exact kk2 _ _ (re_err1 hR)
                  · skip
                    obtain ⟨k4, hk4, ek4⟩ := pu_nonneg (Int32.not_lt.mp cq67)
                    subst ek4
                    refine wp_run 2 (pc' := 73) (ls' := [.ref 74, .int 0, .int (nI k2), .int 3, .int (nI k4), .int (nI k5), am_du]) (st' := [.ref 74, .int (nI k5)]) rfl ?_
                    refine wp_getr 79 rfl rfl rfl ?_
                    refine wp_run 1 (pc' := 77) (ls' := [.ref 74, .int 0, .int (nI k2), .int 3, .int (nI k4), .int (nI k5), am_du]) (st' := [.int 0, .ref 79, .int (nI k5)]) rfl ?_
                    refine wp_ald (i := 0) (nI l) hz2 rfl rfl rfl (by decide) rfl ?_
                    refine wp_run 2 (pc' := 80) (ls' := [.ref 74, .int 0, .int (nI k2), .int 3, .int (nI k4), .int (nI k5), am_du]) (st' := [.int ((nI l) - (nI k2)), .int (nI k5)]) rfl ?_
                    refine wp_icmp_t rfl (show ((nI l) - (nI k2)) < (nI k5) from Int32.not_le.mp (fun q => hno1 k2 k5 rfl rfl (by have := (pu_suble (by omega) (by omega) hl24).mp q; omega))) ?_
                    refine wp_run 3 (pc' := 106) (ls' := [.ref 74, .int 0, .int (nI k2), .int 3, .int (nI k4), .int (nI k5), .int 0]) (st' := [.int 0]) rfl ?_
                    refine wp_if_t rfl (show (0 : Int32) = 0 from by decide) ?_
                    refine wp_run 1 (pc' := 115) (ls' := [.ref 74, .int 0, .int (nI k2), .int 3, .int (nI k4), .int (nI k5), .int 0]) (st' := [.int (-1000000001)]) rfl ?_
                    refine wp_ret rfl ?_
                    show am_wp L xs _ _ _ _ 11 [.ref 74, .int 0, .int (nI k2), .int 3, .int (nI k4), .int (nI k5), am_du, am_du, am_du] [.int (-1000000001)] (am_S b) (am_u h 73 1 (h 73 1 + 1)) _
                    refine wp_run 2 (pc' := 15) (ls' := [.ref 74, .int 0, .int (nI k2), .int 3, .int (nI k4), .int (nI k5), .int (-1000000001), am_du, am_du]) (st' := [.int (-1000000001)]) rfl ?_
                    refine wp_if_f rfl (show ¬ (((-1000000001) : Int32) = 0) from by decide) ?_
                    refine wp_run 2 (pc' := 21) (ls' := [.ref 74, .int 0, .int (nI k2), .int 3, .int (nI k4), .int (nI k5), .int (-1000000001), am_du, am_du]) (st' := [.int (-1000000001), .ref 74]) rfl ?_
                    refine wp_callV (o := 74) (as := [.int (-1000000001)]) (rest := []) (els := [.ref 74, .int (-1000000001)]) rfl rfl rfl rfl rfl rfl rfl rfl (by omega) ?_
                    refine sp_error1 ?_
                    show am_wp L xs _ _ _ _ 24 [.ref 74, .int 0, .int (nI k2), .int 3, .int (nI k4), .int (nI k5), .int (-1000000001), am_du, am_du] [.int (-1000000001)] (am_S b) (am_u (am_u h 73 1 (h 73 1 + 1)) 77 1 ((am_u h 73 1 (h 73 1 + 1)) 77 1 + 1)) _
                    refine wp_ret rfl ?_
                    exact kk2 _ _ (re_err1 hR)
          · skip
            refine wp_run 2 (pc' := 73) (ls' := [.ref 0, .int 0, .int x2, .int 3, .int x4, .int x5, .ref 65, .ref 71]) (st' := [.int 5, .ref 0]) rfl ?_
            refine wp_callV (o := 0) (as := [.int 5]) (rest := []) (els := [.ref 0, .int 5]) rfl rfl rfl rfl rfl rfl rfl rfl (by omega) ?_
            refine sp_refuse5 (by omega) ?_
            show am_wp L xs _ _ _ _ 76 [.ref 0, .int 0, .int x2, .int 3, .int x4, .int x5, .ref 65, .ref 71] [.int (-1000000005)] (am_S b) (am_u h 73 5 (h 73 5 + 1)) _
            refine wp_ret rfl ?_
            refine kk _ _ _ (fun ms2 Q2 kk2 => ?_)
            refine wp_run 6 (pc' := 8) (ls' := [.ref 74, .int 0, .int x2, .int 3, .int x4, .int x5, am_du, am_du, am_du]) (st' := [.int x5, .int x4, .int 3, .int x2, .int 0, .ref 74]) rfl ?_
            refine wp_callV (o := 74) (as := [.int 0, .int x2, .int 3, .int x4, .int x5]) (rest := []) (els := [.ref 74, .int 0, .int x2, .int 3, .int x4, .int x5, am_du]) rfl rfl rfl rfl rfl rfl rfl rfl (by omega) ?_
            refine wp_run 1 (pc' := 1) (ls' := [.ref 74, .int 0, .int x2, .int 3, .int x4, .int x5, am_du]) (st' := [.int 0]) rfl ?_
            refine wp_callS (as := [.int 0]) (rest := []) (els := [.int 0]) rfl rfl rfl rfl rfl rfl rfl rfl (by omega) ?_
            refine sp_m_isSheet (by omega) (fun _ _ _ => ?_) (fun q => absurd rfl (q 0 (by omega)))
            show am_wp L xs _ _ _ _ 4 [.ref 74, .int 0, .int x2, .int 3, .int x4, .int x5, am_du] [.int 1] (am_S b) (am_u h 73 5 (h 73 5 + 1)) _
            refine wp_if_f rfl (show ¬ ((1 : Int32) = 0) from by decide) ?_
            refine wp_run 1 (pc' := 8) (ls' := [.ref 74, .int 0, .int x2, .int 3, .int x4, .int x5, am_du]) (st' := [.int 3]) rfl ?_
            refine wp_callS (as := [.int 3]) (rest := []) (els := [.int 3]) rfl rfl rfl rfl rfl rfl rfl rfl (by omega) ?_
            refine sp_m_isSheet (by omega) (fun _ _ _ => ?_) (fun q => absurd rfl (q 3 (by omega)))
            show am_wp L xs _ _ _ _ 11 [.ref 74, .int 0, .int x2, .int 3, .int x4, .int x5, am_du] [.int 1] (am_S b) (am_u h 73 5 (h 73 5 + 1)) _
            refine wp_if_t rfl (show ¬ (1 : Int32) = 0 from by decide) ?_
            refine wp_run 1 (pc' := 18) (ls' := [.ref 74, .int 0, .int x2, .int 3, .int x4, .int x5, am_du]) (st' := [.ref 74]) rfl ?_
            refine wp_getr 78 rfl rfl rfl ?_
            refine wp_run 1 (pc' := 22) (ls' := [.ref 74, .int 0, .int x2, .int 3, .int x4, .int x5, am_du]) (st' := [.int 0, .ref 78]) rfl ?_
            refine wp_ald (i := 0) (h 78 0) rfl rfl rfl rfl (by decide) rfl ?_
            refine wp_if_f rfl (show ¬ ((h 78 0) = 0) from (fun q => cqz0 (hob.trans q))) ?_
            refine wp_run 1 (pc' := 27) (ls' := [.ref 74, .int 0, .int x2, .int 3, .int x4, .int x5, am_du]) (st' := [.ref 74]) rfl ?_
            refine wp_getr 78 rfl rfl rfl ?_
            refine wp_run 1 (pc' := 31) (ls' := [.ref 74, .int 0, .int x2, .int 3, .int x4, .int x5, am_du]) (st' := [.int 3, .ref 78]) rfl ?_
            refine wp_ald (i := 3) (h 78 3) rfl rfl rfl rfl (by decide) rfl ?_
            refine wp_if_t rfl (show ¬ (h 78 3) = 0 from (fun q => cqz1 (hobB.trans q))) ?_
            refine wp_run 1 (pc' := 39) (ls' := [.ref 74, .int 0, .int x2, .int 3, .int x4, .int x5, am_du]) (st' := [.ref 74]) rfl ?_
            refine wp_getr 78 rfl rfl rfl ?_
            refine wp_run 1 (pc' := 43) (ls' := [.ref 74, .int 0, .int x2, .int 3, .int x4, .int x5, am_du]) (st' := [.int 0, .ref 78]) rfl ?_
            refine wp_ald (i := 0) (h 78 0) rfl rfl rfl rfl (by decide) rfl ?_
            refine wp_run 1 (pc' := 45) (ls' := [.ref 74, .int 0, .int x2, .int 3, .int x4, .int x5, am_du]) (st' := [.ref 74, .int (h 78 0)]) rfl ?_
            refine wp_getr 78 rfl rfl rfl ?_
            refine wp_run 1 (pc' := 49) (ls' := [.ref 74, .int 0, .int x2, .int 3, .int x4, .int x5, am_du]) (st' := [.int 3, .ref 78, .int (h 78 0)]) rfl ?_
            refine wp_ald (i := 3) (h 78 3) rfl rfl rfl rfl (by decide) rfl ?_
            refine wp_icmp_f rfl (show ¬ ((h 78 0) = (h 78 3)) from (fun q => cqe (hob.trans (q.trans hobB.symm)))) ?_
            refine wp_run 1 (pc' := 55) (ls' := [.ref 74, .int 0, .int x2, .int 3, .int x4, .int x5, am_du]) (st' := [.int (-1000000005)]) rfl ?_
            refine wp_ret rfl ?_
            show am_wp L xs _ _ _ _ 11 [.ref 74, .int 0, .int x2, .int 3, .int x4, .int x5, am_du, am_du, am_du] [.int (-1000000005)] (am_S b) (am_u h 73 5 (h 73 5 + 1)) _
            refine wp_run 2 (pc' := 15) (ls' := [.ref 74, .int 0, .int x2, .int 3, .int x4, .int x5, .int (-1000000005), am_du, am_du]) (st' := [.int (-1000000005)]) rfl ?_
            refine wp_if_f rfl (show ¬ (((-1000000005) : Int32) = 0) from by decide) ?_
            refine wp_run 2 (pc' := 21) (ls' := [.ref 74, .int 0, .int x2, .int 3, .int x4, .int x5, .int (-1000000005), am_du, am_du]) (st' := [.int (-1000000005), .ref 74]) rfl ?_
            refine wp_callV (o := 74) (as := [.int (-1000000005)]) (rest := []) (els := [.ref 74, .int (-1000000005)]) rfl rfl rfl rfl rfl rfl rfl rfl (by omega) ?_
            refine sp_error5 ?_
            show am_wp L xs _ _ _ _ 24 [.ref 74, .int 0, .int x2, .int 3, .int x4, .int x5, .int (-1000000005), am_du, am_du] [.int (-1000000005)] (am_S b) (am_u (am_u h 73 5 (h 73 5 + 1)) 77 5 ((am_u h 73 5 (h 73 5 + 1)) 77 5 + 1)) _
            refine wp_ret rfl ?_
            exact kk2 _ _ (re_err5 hR)
        · skip
          replace cqz1 := Decidable.not_not.mp cqz1
          refine wp_run 2 (pc' := 12) (ls' := [.ref 71]) (st' := [.int 1]) rfl ?_
          refine wp_retz rfl (Or.inr rfl) ?_
          show am_wp L xs _ _ _ _ 49 [.ref 0, .int 0, .int x2, .int 3, .int x4, .int x5, .ref 65, .ref 71] [.int 1] (am_S b) h _
          refine wp_if_f rfl (show ¬ ((1 : Int32) = 0) from by decide) ?_
          refine wp_run 2 (pc' := 54) (ls' := [.ref 0, .int 0, .int x2, .int 3, .int x4, .int x5, .ref 65, .ref 71]) (st' := [.int 2, .ref 0]) rfl ?_
          refine wp_callV (o := 0) (as := [.int 2]) (rest := []) (els := [.ref 0, .int 2]) rfl rfl rfl rfl rfl rfl rfl rfl (by omega) ?_
          refine sp_refuse2 (by omega) ?_
          show am_wp L xs _ _ _ _ 57 [.ref 0, .int 0, .int x2, .int 3, .int x4, .int x5, .ref 65, .ref 71] [.int (-1000000002)] (am_S b) (am_u h 73 2 (h 73 2 + 1)) _
          refine wp_ret rfl ?_
          refine kk _ _ _ (fun ms2 Q2 kk2 => ?_)
          refine wp_run 6 (pc' := 8) (ls' := [.ref 74, .int 0, .int x2, .int 3, .int x4, .int x5, am_du, am_du, am_du]) (st' := [.int x5, .int x4, .int 3, .int x2, .int 0, .ref 74]) rfl ?_
          refine wp_callV (o := 74) (as := [.int 0, .int x2, .int 3, .int x4, .int x5]) (rest := []) (els := [.ref 74, .int 0, .int x2, .int 3, .int x4, .int x5, am_du]) rfl rfl rfl rfl rfl rfl rfl rfl (by omega) ?_
          refine wp_run 1 (pc' := 1) (ls' := [.ref 74, .int 0, .int x2, .int 3, .int x4, .int x5, am_du]) (st' := [.int 0]) rfl ?_
          refine wp_callS (as := [.int 0]) (rest := []) (els := [.int 0]) rfl rfl rfl rfl rfl rfl rfl rfl (by omega) ?_
          refine sp_m_isSheet (by omega) (fun _ _ _ => ?_) (fun q => absurd rfl (q 0 (by omega)))
          show am_wp L xs _ _ _ _ 4 [.ref 74, .int 0, .int x2, .int 3, .int x4, .int x5, am_du] [.int 1] (am_S b) (am_u h 73 2 (h 73 2 + 1)) _
          refine wp_if_f rfl (show ¬ ((1 : Int32) = 0) from by decide) ?_
          refine wp_run 1 (pc' := 8) (ls' := [.ref 74, .int 0, .int x2, .int 3, .int x4, .int x5, am_du]) (st' := [.int 3]) rfl ?_
          refine wp_callS (as := [.int 3]) (rest := []) (els := [.int 3]) rfl rfl rfl rfl rfl rfl rfl rfl (by omega) ?_
          refine sp_m_isSheet (by omega) (fun _ _ _ => ?_) (fun q => absurd rfl (q 3 (by omega)))
          show am_wp L xs _ _ _ _ 11 [.ref 74, .int 0, .int x2, .int 3, .int x4, .int x5, am_du] [.int 1] (am_S b) (am_u h 73 2 (h 73 2 + 1)) _
          refine wp_if_t rfl (show ¬ (1 : Int32) = 0 from by decide) ?_
          refine wp_run 1 (pc' := 18) (ls' := [.ref 74, .int 0, .int x2, .int 3, .int x4, .int x5, am_du]) (st' := [.ref 74]) rfl ?_
          refine wp_getr 78 rfl rfl rfl ?_
          refine wp_run 1 (pc' := 22) (ls' := [.ref 74, .int 0, .int x2, .int 3, .int x4, .int x5, am_du]) (st' := [.int 0, .ref 78]) rfl ?_
          refine wp_ald (i := 0) (h 78 0) rfl rfl rfl rfl (by decide) rfl ?_
          refine wp_if_f rfl (show ¬ ((h 78 0) = 0) from (fun q => cqz0 (hob.trans q))) ?_
          refine wp_run 1 (pc' := 27) (ls' := [.ref 74, .int 0, .int x2, .int 3, .int x4, .int x5, am_du]) (st' := [.ref 74]) rfl ?_
          refine wp_getr 78 rfl rfl rfl ?_
          refine wp_run 1 (pc' := 31) (ls' := [.ref 74, .int 0, .int x2, .int 3, .int x4, .int x5, am_du]) (st' := [.int 3, .ref 78]) rfl ?_
          refine wp_ald (i := 3) (h 78 3) rfl rfl rfl rfl (by decide) rfl ?_
          refine wp_if_f rfl (show ¬ (¬ (h 78 3) = 0) from (fun q => q (hobB.symm.trans cqz1))) ?_
          refine wp_run 1 (pc' := 37) (ls' := [.ref 74, .int 0, .int x2, .int 3, .int x4, .int x5, am_du]) (st' := [.int (-1000000002)]) rfl ?_
          refine wp_ret rfl ?_
          show am_wp L xs _ _ _ _ 11 [.ref 74, .int 0, .int x2, .int 3, .int x4, .int x5, am_du, am_du, am_du] [.int (-1000000002)] (am_S b) (am_u h 73 2 (h 73 2 + 1)) _
          refine wp_run 2 (pc' := 15) (ls' := [.ref 74, .int 0, .int x2, .int 3, .int x4, .int x5, .int (-1000000002), am_du, am_du]) (st' := [.int (-1000000002)]) rfl ?_
          refine wp_if_f rfl (show ¬ (((-1000000002) : Int32) = 0) from by decide) ?_
          refine wp_run 2 (pc' := 21) (ls' := [.ref 74, .int 0, .int x2, .int 3, .int x4, .int x5, .int (-1000000002), am_du, am_du]) (st' := [.int (-1000000002), .ref 74]) rfl ?_
          refine wp_callV (o := 74) (as := [.int (-1000000002)]) (rest := []) (els := [.ref 74, .int (-1000000002)]) rfl rfl rfl rfl rfl rfl rfl rfl (by omega) ?_
          refine sp_error2 ?_
          show am_wp L xs _ _ _ _ 24 [.ref 74, .int 0, .int x2, .int 3, .int x4, .int x5, .int (-1000000002), am_du, am_du] [.int (-1000000002)] (am_S b) (am_u (am_u h 73 2 (h 73 2 + 1)) 77 2 ((am_u h 73 2 (h 73 2 + 1)) 77 2 + 1)) _
          refine wp_ret rfl ?_
          exact kk2 _ _ (re_err2 hR)
      · skip
        replace cqz0 := Decidable.not_not.mp cqz0
        refine wp_run 2 (pc' := 12) (ls' := [.ref 65]) (st' := [.int 1]) rfl ?_
        refine wp_retz rfl (Or.inr rfl) ?_
        show am_wp L xs _ _ _ _ 41 [.ref 0, .int 0, .int x2, .int 3, .int x4, .int x5, .ref 65, .ref 71] [.int 1] (am_S b) h _
        refine wp_if_t rfl (show ¬ (1 : Int32) = 0 from by decide) ?_
        refine wp_run 2 (pc' := 54) (ls' := [.ref 0, .int 0, .int x2, .int 3, .int x4, .int x5, .ref 65, .ref 71]) (st' := [.int 2, .ref 0]) rfl ?_
        refine wp_callV (o := 0) (as := [.int 2]) (rest := []) (els := [.ref 0, .int 2]) rfl rfl rfl rfl rfl rfl rfl rfl (by omega) ?_
        refine sp_refuse2 (by omega) ?_
        show am_wp L xs _ _ _ _ 57 [.ref 0, .int 0, .int x2, .int 3, .int x4, .int x5, .ref 65, .ref 71] [.int (-1000000002)] (am_S b) (am_u h 73 2 (h 73 2 + 1)) _
        refine wp_ret rfl ?_
        refine kk _ _ _ (fun ms2 Q2 kk2 => ?_)
        refine wp_run 6 (pc' := 8) (ls' := [.ref 74, .int 0, .int x2, .int 3, .int x4, .int x5, am_du, am_du, am_du]) (st' := [.int x5, .int x4, .int 3, .int x2, .int 0, .ref 74]) rfl ?_
        refine wp_callV (o := 74) (as := [.int 0, .int x2, .int 3, .int x4, .int x5]) (rest := []) (els := [.ref 74, .int 0, .int x2, .int 3, .int x4, .int x5, am_du]) rfl rfl rfl rfl rfl rfl rfl rfl (by omega) ?_
        refine wp_run 1 (pc' := 1) (ls' := [.ref 74, .int 0, .int x2, .int 3, .int x4, .int x5, am_du]) (st' := [.int 0]) rfl ?_
        refine wp_callS (as := [.int 0]) (rest := []) (els := [.int 0]) rfl rfl rfl rfl rfl rfl rfl rfl (by omega) ?_
        refine sp_m_isSheet (by omega) (fun _ _ _ => ?_) (fun q => absurd rfl (q 0 (by omega)))
        show am_wp L xs _ _ _ _ 4 [.ref 74, .int 0, .int x2, .int 3, .int x4, .int x5, am_du] [.int 1] (am_S b) (am_u h 73 2 (h 73 2 + 1)) _
        refine wp_if_f rfl (show ¬ ((1 : Int32) = 0) from by decide) ?_
        refine wp_run 1 (pc' := 8) (ls' := [.ref 74, .int 0, .int x2, .int 3, .int x4, .int x5, am_du]) (st' := [.int 3]) rfl ?_
        refine wp_callS (as := [.int 3]) (rest := []) (els := [.int 3]) rfl rfl rfl rfl rfl rfl rfl rfl (by omega) ?_
        refine sp_m_isSheet (by omega) (fun _ _ _ => ?_) (fun q => absurd rfl (q 3 (by omega)))
        show am_wp L xs _ _ _ _ 11 [.ref 74, .int 0, .int x2, .int 3, .int x4, .int x5, am_du] [.int 1] (am_S b) (am_u h 73 2 (h 73 2 + 1)) _
        refine wp_if_t rfl (show ¬ (1 : Int32) = 0 from by decide) ?_
        refine wp_run 1 (pc' := 18) (ls' := [.ref 74, .int 0, .int x2, .int 3, .int x4, .int x5, am_du]) (st' := [.ref 74]) rfl ?_
        refine wp_getr 78 rfl rfl rfl ?_
        refine wp_run 1 (pc' := 22) (ls' := [.ref 74, .int 0, .int x2, .int 3, .int x4, .int x5, am_du]) (st' := [.int 0, .ref 78]) rfl ?_
        refine wp_ald (i := 0) (h 78 0) rfl rfl rfl rfl (by decide) rfl ?_
        refine wp_if_t rfl (show (h 78 0) = 0 from (hob.symm.trans cqz0)) ?_
        refine wp_run 1 (pc' := 37) (ls' := [.ref 74, .int 0, .int x2, .int 3, .int x4, .int x5, am_du]) (st' := [.int (-1000000002)]) rfl ?_
        refine wp_ret rfl ?_
        show am_wp L xs _ _ _ _ 11 [.ref 74, .int 0, .int x2, .int 3, .int x4, .int x5, am_du, am_du, am_du] [.int (-1000000002)] (am_S b) (am_u h 73 2 (h 73 2 + 1)) _
        refine wp_run 2 (pc' := 15) (ls' := [.ref 74, .int 0, .int x2, .int 3, .int x4, .int x5, .int (-1000000002), am_du, am_du]) (st' := [.int (-1000000002)]) rfl ?_
        refine wp_if_f rfl (show ¬ (((-1000000002) : Int32) = 0) from by decide) ?_
        refine wp_run 2 (pc' := 21) (ls' := [.ref 74, .int 0, .int x2, .int 3, .int x4, .int x5, .int (-1000000002), am_du, am_du]) (st' := [.int (-1000000002), .ref 74]) rfl ?_
        refine wp_callV (o := 74) (as := [.int (-1000000002)]) (rest := []) (els := [.ref 74, .int (-1000000002)]) rfl rfl rfl rfl rfl rfl rfl rfl (by omega) ?_
        refine sp_error2 ?_
        show am_wp L xs _ _ _ _ 24 [.ref 74, .int 0, .int x2, .int 3, .int x4, .int x5, .int (-1000000002), am_du, am_du] [.int (-1000000002)] (am_S b) (am_u (am_u h 73 2 (h 73 2 + 1)) 77 2 ((am_u h 73 2 (h 73 2 + 1)) 77 2 + 1)) _
        refine wp_ret rfl ?_
        exact kk2 _ _ (re_err2 hR)
    · skip
      intro hnx3
      show am_wp L xs _ _ _ _ 11 [.ref 0, .int 0, .int x2, .int x3, .int x4, .int x5, am_du, am_du] [.int 0] (am_S b) h _
      refine wp_if_f rfl (show ¬ (¬ (0 : Int32) = 0) from by decide) ?_
      refine wp_run 2 (pc' := 16) (ls' := [.ref 0, .int 0, .int x2, .int x3, .int x4, .int x5, am_du, am_du]) (st' := [.int 1, .ref 0]) rfl ?_
      refine wp_callV (o := 0) (as := [.int 1]) (rest := []) (els := [.ref 0, .int 1]) rfl rfl rfl rfl rfl rfl rfl rfl (by omega) ?_
      refine sp_refuse1 (by omega) ?_
      show am_wp L xs _ _ _ _ 19 [.ref 0, .int 0, .int x2, .int x3, .int x4, .int x5, am_du, am_du] [.int (-1000000001)] (am_S b) (am_u h 73 1 (h 73 1 + 1)) _
      refine wp_ret rfl ?_
      refine kk _ _ _ (fun ms2 Q2 kk2 => ?_)
      refine wp_run 6 (pc' := 8) (ls' := [.ref 74, .int 0, .int x2, .int x3, .int x4, .int x5, am_du, am_du, am_du]) (st' := [.int x5, .int x4, .int x3, .int x2, .int 0, .ref 74]) rfl ?_
      refine wp_callV (o := 74) (as := [.int 0, .int x2, .int x3, .int x4, .int x5]) (rest := []) (els := [.ref 74, .int 0, .int x2, .int x3, .int x4, .int x5, am_du]) rfl rfl rfl rfl rfl rfl rfl rfl (by omega) ?_
      refine wp_run 1 (pc' := 1) (ls' := [.ref 74, .int 0, .int x2, .int x3, .int x4, .int x5, am_du]) (st' := [.int 0]) rfl ?_
      refine wp_callS (as := [.int 0]) (rest := []) (els := [.int 0]) rfl rfl rfl rfl rfl rfl rfl rfl (by omega) ?_
      refine sp_m_isSheet (by omega) (fun _ _ _ => ?_) (fun q => absurd rfl (q 0 (by omega)))
      show am_wp L xs _ _ _ _ 4 [.ref 74, .int 0, .int x2, .int x3, .int x4, .int x5, am_du] [.int 1] (am_S b) (am_u h 73 1 (h 73 1 + 1)) _
      refine wp_if_f rfl (show ¬ ((1 : Int32) = 0) from by decide) ?_
      refine wp_run 1 (pc' := 8) (ls' := [.ref 74, .int 0, .int x2, .int x3, .int x4, .int x5, am_du]) (st' := [.int x3]) rfl ?_
      refine wp_callS (as := [.int x3]) (rest := []) (els := [.int x3]) rfl rfl rfl rfl rfl rfl rfl rfl (by omega) ?_
      refine sp_m_isSheet (by omega) (fun k hk e => absurd e (hnx3 k hk)) (fun _ => ?_)
      show am_wp L xs _ _ _ _ 11 [.ref 74, .int 0, .int x2, .int x3, .int x4, .int x5, am_du] [.int 0] (am_S b) (am_u h 73 1 (h 73 1 + 1)) _
      refine wp_if_f rfl (show ¬ (¬ (0 : Int32) = 0) from by decide) ?_
      refine wp_run 1 (pc' := 16) (ls' := [.ref 74, .int 0, .int x2, .int x3, .int x4, .int x5, am_du]) (st' := [.int (-1000000001)]) rfl ?_
      refine wp_ret rfl ?_
      show am_wp L xs _ _ _ _ 11 [.ref 74, .int 0, .int x2, .int x3, .int x4, .int x5, am_du, am_du, am_du] [.int (-1000000001)] (am_S b) (am_u h 73 1 (h 73 1 + 1)) _
      refine wp_run 2 (pc' := 15) (ls' := [.ref 74, .int 0, .int x2, .int x3, .int x4, .int x5, .int (-1000000001), am_du, am_du]) (st' := [.int (-1000000001)]) rfl ?_
      refine wp_if_f rfl (show ¬ (((-1000000001) : Int32) = 0) from by decide) ?_
      refine wp_run 2 (pc' := 21) (ls' := [.ref 74, .int 0, .int x2, .int x3, .int x4, .int x5, .int (-1000000001), am_du, am_du]) (st' := [.int (-1000000001), .ref 74]) rfl ?_
      refine wp_callV (o := 74) (as := [.int (-1000000001)]) (rest := []) (els := [.ref 74, .int (-1000000001)]) rfl rfl rfl rfl rfl rfl rfl rfl (by omega) ?_
      refine sp_error1 ?_
      show am_wp L xs _ _ _ _ 24 [.ref 74, .int 0, .int x2, .int x3, .int x4, .int x5, .int (-1000000001), am_du, am_du] [.int (-1000000001)] (am_S b) (am_u (am_u h 73 1 (h 73 1 + 1)) 77 1 ((am_u h 73 1 (h 73 1 + 1)) 77 1 + 1)) _
      refine wp_ret rfl ?_
      exact kk2 _ _ (re_err1 hR)
  · skip
    intro ex1
    subst ex1
    show am_wp L xs _ _ _ _ 4 [.ref 0, .int 1, .int x2, .int x3, .int x4, .int x5, am_du, am_du] [.int 1] (am_S b) h _
    refine wp_if_f rfl (show ¬ ((1 : Int32) = 0) from by decide) ?_
    refine wp_run 1 (pc' := 8) (ls' := [.ref 0, .int 1, .int x2, .int x3, .int x4, .int x5, am_du, am_du]) (st' := [.int x3]) rfl ?_
    refine wp_callS (as := [.int x3]) (rest := []) (els := [.int x3]) rfl rfl rfl rfl rfl rfl rfl rfl (by omega) ?_
    refine sp_x_isSheet (by omega) (pu_four ?_ ?_ ?_ ?_) ?_
    · skip
      intro ex3
      subst ex3
      show am_wp L xs _ _ _ _ 11 [.ref 0, .int 1, .int x2, .int 0, .int x4, .int x5, am_du, am_du] [.int 1] (am_S b) h _
      refine wp_if_t rfl (show ¬ (1 : Int32) = 0 from by decide) ?_
      obtain ⟨l, hl24, ho2, hz2, hob, hbb, hri⟩ := id hS1
      obtain ⟨lB, hl24B, ho2B, hz2B, hobB, hbbB, hriB⟩ := id hS0
      refine wp_run 1 (pc' := 21) (ls' := [.ref 0, .int 1, .int x2, .int 0, .int x4, .int x5, am_du, am_du]) (st' := [.ref 0]) rfl ?_
      refine wp_getr 64 rfl rfl rfl ?_
      refine wp_run 1 (pc' := 25) (ls' := [.ref 0, .int 1, .int x2, .int 0, .int x4, .int x5, am_du, am_du]) (st' := [.int 1, .ref 64]) rfl ?_
      refine wp_aald (r := 67) rfl rfl (Or.inr rfl) rfl (by decide) rfl rfl ?_
      refine wp_run 2 (pc' := 29) (ls' := [.ref 0, .int 1, .int x2, .int 0, .int x4, .int x5, .ref 67, am_du]) (st' := [.ref 0]) rfl ?_
      refine wp_getr 64 rfl rfl rfl ?_
      refine wp_run 1 (pc' := 33) (ls' := [.ref 0, .int 1, .int x2, .int 0, .int x4, .int x5, .ref 67, am_du]) (st' := [.int 0, .ref 64]) rfl ?_
      refine wp_aald (r := 65) rfl rfl (Or.inr rfl) rfl (by decide) rfl rfl ?_
      refine wp_run 2 (pc' := 38) (ls' := [.ref 0, .int 1, .int x2, .int 0, .int x4, .int x5, .ref 67, .ref 65]) (st' := [.ref 67]) rfl ?_
      refine wp_callV (o := 67) (as := []) (rest := []) (els := [.ref 67]) rfl rfl rfl rfl rfl rfl rfl rfl (by omega) ?_
      refine wp_run 1 (pc' := 1) (ls' := [.ref 67]) (st' := [.ref 67]) rfl ?_
      refine wp_geti (a := 1) (h 67 1) rfl rfl rfl rfl ?_
      refine wp_if rfl (fun (cqz0 : ¬ (h 67 1) = 0) => ?_) (fun (cqz0 : ¬ (¬ (h 67 1) = 0)) => ?_)
      · skip
        refine wp_run 1 (pc' := 12) (ls' := [.ref 67]) (st' := [.int 0]) rfl ?_
        refine wp_retz rfl (Or.inl rfl) ?_
        show am_wp L xs _ _ _ _ 41 [.ref 0, .int 1, .int x2, .int 0, .int x4, .int x5, .ref 67, .ref 65] [.int 0] (am_S b) h _
        refine wp_if_f rfl (show ¬ (¬ (0 : Int32) = 0) from by decide) ?_
        refine wp_run 1 (pc' := 46) (ls' := [.ref 0, .int 1, .int x2, .int 0, .int x4, .int x5, .ref 67, .ref 65]) (st' := [.ref 65]) rfl ?_
        refine wp_callV (o := 65) (as := []) (rest := []) (els := [.ref 65]) rfl rfl rfl rfl rfl rfl rfl rfl (by omega) ?_
        refine wp_run 1 (pc' := 1) (ls' := [.ref 65]) (st' := [.ref 65]) rfl ?_
        refine wp_geti (a := 1) (h 65 1) rfl rfl rfl rfl ?_
        refine wp_if rfl (fun (cqz1 : ¬ (h 65 1) = 0) => ?_) (fun (cqz1 : ¬ (¬ (h 65 1) = 0)) => ?_)
        · skip
          refine wp_run 1 (pc' := 12) (ls' := [.ref 65]) (st' := [.int 0]) rfl ?_
          refine wp_retz rfl (Or.inl rfl) ?_
          show am_wp L xs _ _ _ _ 49 [.ref 0, .int 1, .int x2, .int 0, .int x4, .int x5, .ref 67, .ref 65] [.int 0] (am_S b) h _
          refine wp_if_t rfl (show (0 : Int32) = 0 from by decide) ?_
          refine wp_run 1 (pc' := 60) (ls' := [.ref 0, .int 1, .int x2, .int 0, .int x4, .int x5, .ref 67, .ref 65]) (st' := [.ref 67]) rfl ?_
          refine wp_geti (a := 1) (h 67 1) rfl rfl rfl rfl ?_
          refine wp_run 1 (pc' := 65) (ls' := [.ref 0, .int 1, .int x2, .int 0, .int x4, .int x5, .ref 67, .ref 65]) (st' := [.ref 65, .int (h 67 1)]) rfl ?_
          refine wp_geti (a := 1) (h 65 1) rfl rfl rfl rfl ?_
          refine wp_icmp rfl (fun (cqe : (h 67 1) = (h 65 1)) => ?_) (fun (cqe : ¬ ((h 67 1) = (h 65 1))) => ?_)
          · skip
            refine wp_run 3 (pc' := 82) (ls' := [.ref 0, .int 1, .int x2, .int 0, .int x4, .int x5, .ref 67, .ref 65]) (st' := [.int x5, .int x2, .ref 67]) rfl ?_
            refine wp_callV (o := 67) (as := [.int x2, .int x5]) (rest := []) (els := [.ref 67, .int x2, .int x5]) rfl rfl rfl rfl rfl rfl rfl rfl (by omega) ?_
            refine sp_holds (h := h) (o := 67) (l := l) rfl ho2 hl24 (by omega) ?_ ?_
            · skip
              intro k2 k5 e5 e2 hle1
              subst e5
              subst e2
              show am_wp L xs _ _ _ _ 85 [.ref 0, .int 1, .int (nI k2), .int 0, .int x4, .int (nI k5), .ref 67, .ref 65] [.int 1] (am_S b) h _
              refine wp_if_f rfl (show ¬ ((1 : Int32) = 0) from by decide) ?_
              refine wp_run 3 (pc' := 94) (ls' := [.ref 0, .int 1, .int (nI k2), .int 0, .int x4, .int (nI k5), .ref 67, .ref 65]) (st' := [.int (nI k5), .int x4, .ref 65]) rfl ?_
              refine wp_callV (o := 65) (as := [.int x4, .int (nI k5)]) (rest := []) (els := [.ref 65, .int x4, .int (nI k5)]) rfl rfl rfl rfl rfl rfl rfl rfl (by omega) ?_
              refine sp_holds (h := h) (o := 65) (l := lB) rfl ho2B hl24B (by omega) ?_ ?_
              · skip
                intro k4 n4 q1 e4 hle2
                have en := pu_inj (by omega) (by omega) q1
                subst en
                subst e4
                show am_wp L xs _ _ _ _ 97 [.ref 0, .int 1, .int (nI k2), .int 0, .int (nI k4), .int (nI k5), .ref 67, .ref 65] [.int 1] (am_S b) h _
                refine wp_if_t rfl (show ¬ (1 : Int32) = 0 from by decide) ?_
                refine wp_run 1 (pc' := 108) (ls' := [.ref 0, .int 1, .int (nI k2), .int 0, .int (nI k4), .int (nI k5), .ref 67, .ref 65]) (st' := [.ref 67]) rfl ?_
                refine wp_getr 68 rfl rfl rfl ?_
                refine wp_run 2 (pc' := 114) (ls' := [.ref 0, .int 1, .int (nI k2), .int 0, .int (nI k4), .int (nI k5), .ref 67, .ref 65]) (st' := [.ref 65, .int (nI k2), .ref 68]) rfl ?_
                refine wp_getr 66 rfl rfl rfl ?_
                refine wp_run 2 (pc' := 121) (ls' := [.ref 0, .int 1, .int (nI k2), .int 0, .int (nI k4), .int (nI k5), .ref 67, .ref 65]) (st' := [.int (nI k5), .int (nI k4), .ref 66, .int (nI k2), .ref 68]) rfl ?_
                refine wp_copy (q := 68) (o := 66) (sp := k2) (dp := k4) (n := k5) rfl rfl rfl rfl rfl rfl (by omega) (by omega) (by omega) (by omega) rfl (by omega) ?_
                refine wp_run 1 (pc' := 126) (ls' := [.ref 0, .int 1, .int (nI k2), .int 0, .int (nI k4), .int (nI k5), .ref 67, .ref 65]) (st' := [.int (nI k5)]) rfl ?_
                refine wp_ret rfl ?_
                refine kk _ _ _ (fun ms2 Q2 kk2 => ?_)
                refine wp_run 6 (pc' := 8) (ls' := [.ref 74, .int 1, .int (nI k2), .int 0, .int (nI k4), .int (nI k5), am_du, am_du, am_du]) (st' := [.int (nI k5), .int (nI k4), .int 0, .int (nI k2), .int 1, .ref 74]) rfl ?_
                refine wp_callV (o := 74) (as := [.int 1, .int (nI k2), .int 0, .int (nI k4), .int (nI k5)]) (rest := []) (els := [.ref 74, .int 1, .int (nI k2), .int 0, .int (nI k4), .int (nI k5), am_du]) rfl rfl rfl rfl rfl rfl rfl rfl (by omega) ?_
                refine wp_run 1 (pc' := 1) (ls' := [.ref 74, .int 1, .int (nI k2), .int 0, .int (nI k4), .int (nI k5), am_du]) (st' := [.int 1]) rfl ?_
                refine wp_callS (as := [.int 1]) (rest := []) (els := [.int 1]) rfl rfl rfl rfl rfl rfl rfl rfl (by omega) ?_
                refine sp_m_isSheet (by omega) (fun _ _ _ => ?_) (fun q => absurd rfl (q 1 (by omega)))
                show am_wp L xs _ _ _ _ 4 [.ref 74, .int 1, .int (nI k2), .int 0, .int (nI k4), .int (nI k5), am_du] [.int 1] (am_S b) (am_ur h 66 (va_cpy (h 68) (h 66) k2 k4 k5)) _
                refine wp_if_f rfl (show ¬ ((1 : Int32) = 0) from by decide) ?_
                refine wp_run 1 (pc' := 8) (ls' := [.ref 74, .int 1, .int (nI k2), .int 0, .int (nI k4), .int (nI k5), am_du]) (st' := [.int 0]) rfl ?_
                refine wp_callS (as := [.int 0]) (rest := []) (els := [.int 0]) rfl rfl rfl rfl rfl rfl rfl rfl (by omega) ?_
                refine sp_m_isSheet (by omega) (fun _ _ _ => ?_) (fun q => absurd rfl (q 0 (by omega)))
                show am_wp L xs _ _ _ _ 11 [.ref 74, .int 1, .int (nI k2), .int 0, .int (nI k4), .int (nI k5), am_du] [.int 1] (am_S b) (am_ur h 66 (va_cpy (h 68) (h 66) k2 k4 k5)) _
                refine wp_if_t rfl (show ¬ (1 : Int32) = 0 from by decide) ?_
                refine wp_run 1 (pc' := 18) (ls' := [.ref 74, .int 1, .int (nI k2), .int 0, .int (nI k4), .int (nI k5), am_du]) (st' := [.ref 74]) rfl ?_
                refine wp_getr 78 rfl rfl rfl ?_
                refine wp_run 1 (pc' := 22) (ls' := [.ref 74, .int 1, .int (nI k2), .int 0, .int (nI k4), .int (nI k5), am_du]) (st' := [.int 1, .ref 78]) rfl ?_
                refine wp_ald (i := 1) (h 78 1) rfl rfl rfl rfl (by decide) rfl ?_
                refine wp_if_f rfl (show ¬ ((h 78 1) = 0) from (fun q => cqz0 (hob.trans q))) ?_
                refine wp_run 1 (pc' := 27) (ls' := [.ref 74, .int 1, .int (nI k2), .int 0, .int (nI k4), .int (nI k5), am_du]) (st' := [.ref 74]) rfl ?_
                refine wp_getr 78 rfl rfl rfl ?_
                refine wp_run 1 (pc' := 31) (ls' := [.ref 74, .int 1, .int (nI k2), .int 0, .int (nI k4), .int (nI k5), am_du]) (st' := [.int 0, .ref 78]) rfl ?_
                refine wp_ald (i := 0) (h 78 0) rfl rfl rfl rfl (by decide) rfl ?_
                refine wp_if_t rfl (show ¬ (h 78 0) = 0 from (fun q => cqz1 (hobB.trans q))) ?_
                refine wp_run 1 (pc' := 39) (ls' := [.ref 74, .int 1, .int (nI k2), .int 0, .int (nI k4), .int (nI k5), am_du]) (st' := [.ref 74]) rfl ?_
                refine wp_getr 78 rfl rfl rfl ?_
                refine wp_run 1 (pc' := 43) (ls' := [.ref 74, .int 1, .int (nI k2), .int 0, .int (nI k4), .int (nI k5), am_du]) (st' := [.int 1, .ref 78]) rfl ?_
                refine wp_ald (i := 1) (h 78 1) rfl rfl rfl rfl (by decide) rfl ?_
                refine wp_run 1 (pc' := 45) (ls' := [.ref 74, .int 1, .int (nI k2), .int 0, .int (nI k4), .int (nI k5), am_du]) (st' := [.ref 74, .int (h 78 1)]) rfl ?_
                refine wp_getr 78 rfl rfl rfl ?_
                refine wp_run 1 (pc' := 49) (ls' := [.ref 74, .int 1, .int (nI k2), .int 0, .int (nI k4), .int (nI k5), am_du]) (st' := [.int 0, .ref 78, .int (h 78 1)]) rfl ?_
                refine wp_ald (i := 0) (h 78 0) rfl rfl rfl rfl (by decide) rfl ?_
                refine wp_icmp_t rfl (show (h 78 1) = (h 78 0) from (hob.symm.trans (cqe.trans hobB))) ?_
                refine wp_run 1 (pc' := 58) (ls' := [.ref 74, .int 1, .int (nI k2), .int 0, .int (nI k4), .int (nI k5), am_du]) (st' := [.int (nI k5)]) rfl ?_
                refine wp_if_f rfl (show ¬ ((nI k5) < 0) from mt (nI_ltI (a := k5) (b := 0) (by omega) (by omega)).mp (by omega)) ?_
                refine wp_run 1 (pc' := 62) (ls' := [.ref 74, .int 1, .int (nI k2), .int 0, .int (nI k4), .int (nI k5), am_du]) (st' := [.int (nI k2)]) rfl ?_
                refine wp_if_f rfl (show ¬ ((nI k2) < 0) from mt (nI_ltI (a := k2) (b := 0) (by omega) (by omega)).mp (by omega)) ?_
                refine wp_run 1 (pc' := 67) (ls' := [.ref 74, .int 1, .int (nI k2), .int 0, .int (nI k4), .int (nI k5), am_du]) (st' := [.int (nI k4)]) rfl ?_
                refine wp_if_f rfl (show ¬ ((nI k4) < 0) from mt (nI_ltI (a := k4) (b := 0) (by omega) (by omega)).mp (by omega)) ?_
                refine wp_run 2 (pc' := 73) (ls' := [.ref 74, .int 1, .int (nI k2), .int 0, .int (nI k4), .int (nI k5), am_du]) (st' := [.ref 74, .int (nI k5)]) rfl ?_
                refine wp_getr 79 rfl rfl rfl ?_
                refine wp_run 1 (pc' := 77) (ls' := [.ref 74, .int 1, .int (nI k2), .int 0, .int (nI k4), .int (nI k5), am_du]) (st' := [.int 1, .ref 79, .int (nI k5)]) rfl ?_
                refine wp_ald (i := 1) (nI l) hz2 rfl rfl rfl (by decide) rfl ?_
                refine wp_run 2 (pc' := 80) (ls' := [.ref 74, .int 1, .int (nI k2), .int 0, .int (nI k4), .int (nI k5), am_du]) (st' := [.int ((nI l) - (nI k2)), .int (nI k5)]) rfl ?_
                refine wp_icmp_f rfl (show ¬ (((nI l) - (nI k2)) < (nI k5)) from Int32.not_lt.mpr ((pu_suble (by omega) (by omega) hl24).mpr (by omega))) ?_
                refine wp_run 2 (pc' := 86) (ls' := [.ref 74, .int 1, .int (nI k2), .int 0, .int (nI k4), .int (nI k5), am_du]) (st' := [.ref 74, .int (nI k5)]) rfl ?_
                refine wp_getr 79 rfl rfl rfl ?_
                refine wp_run 1 (pc' := 90) (ls' := [.ref 74, .int 1, .int (nI k2), .int 0, .int (nI k4), .int (nI k5), am_du]) (st' := [.int 0, .ref 79, .int (nI k5)]) rfl ?_
                refine wp_ald (i := 0) (nI lB) hz2B rfl rfl rfl (by decide) rfl ?_
                refine wp_run 2 (pc' := 94) (ls' := [.ref 74, .int 1, .int (nI k2), .int 0, .int (nI k4), .int (nI k5), am_du]) (st' := [.int ((nI lB) - (nI k4)), .int (nI k5)]) rfl ?_
                refine wp_icmp_f rfl (show ¬ (((nI lB) - (nI k4)) < (nI k5)) from Int32.not_lt.mpr ((pu_suble (by omega) (by omega) hl24B).mpr (by omega))) ?_
                refine wp_run 4 (pc' := 106) (ls' := [.ref 74, .int 1, .int (nI k2), .int 0, .int (nI k4), .int (nI k5), .int 1]) (st' := [.int 1]) rfl ?_
                refine wp_if_f rfl (show ¬ ((1 : Int32) = 0) from by decide) ?_
                refine wp_run 2 (pc' := 115) (ls' := [.ref 74, .int 1, .int (nI k2), .int 0, .int (nI k4), .int (nI k5), .int 1]) (st' := [.int 0]) rfl ?_
                refine wp_ret rfl ?_
                show am_wp L xs _ _ _ _ 11 [.ref 74, .int 1, .int (nI k2), .int 0, .int (nI k4), .int (nI k5), am_du, am_du, am_du] [.int 0] (am_S b) (am_ur h 66 (va_cpy (h 68) (h 66) k2 k4 k5)) _
                refine wp_run 2 (pc' := 15) (ls' := [.ref 74, .int 1, .int (nI k2), .int 0, .int (nI k4), .int (nI k5), .int 0, am_du, am_du]) (st' := [.int 0]) rfl ?_
                refine wp_if_t rfl (show (0 : Int32) = 0 from by decide) ?_
                refine wp_run 2 (pc' := 28) (ls' := [.ref 74, .int 1, .int (nI k2), .int 0, .int (nI k4), .int (nI k5), .int 0, .int 0, am_du]) (st' := []) rfl ?_
                by_cases hij : k2 < k4
                · have hp := lp_mvd (L := L) (xs := xs) (d := d) (ms := ms2) (b := b) (h := (am_ur h 66 (va_cpy (h 68) (h 66) k2 k4 k5))) (Q := Q2) (s := 1) (o := 0) (i := k2) (j := k4) (n := k5) (by omega) (by omega) (by omega) (by omega) hij (by omega) ?_ k5 0 am_du (by omega)
                  · rw [mv_d0] at hp; exact hp
                  · exact kk2 _ _ ⟨⟨n, c, t, tp, wt, s0, s1, p0, p1, H⟩, re_im_s hI, hE, (re_sh_m hS1 hS0 (by omega) (by omega)), (re_sh_mo hS1 (by decide) (by omega)), (re_sh_mo hS2 (by decide) (by omega)), (re_sh_mo hS3 (by decide) (by omega)), hT⟩
                · have hp := lp_mva (L := L) (xs := xs) (d := d) (ms := ms2) (b := b) (h := (am_ur h 66 (va_cpy (h 68) (h 66) k2 k4 k5))) (Q := Q2) (s := 1) (o := 0) (i := k2) (j := k4) (n := k5) (by omega) (by omega) (by omega) (by omega) hij (by omega) ?_ k5 0 am_du (by omega)
                  · rw [mv_a0] at hp; exact hp
                  · exact kk2 _ _ ⟨⟨n, c, t, tp, wt, s0, s1, p0, p1, H⟩, re_im_s hI, hE, (re_sh_m hS1 hS0 (by omega) (by omega)), (re_sh_mo hS1 (by decide) (by omega)), (re_sh_mo hS2 (by decide) (by omega)), (re_sh_mo hS3 (by decide) (by omega)), hT⟩
              · skip
                intro hno2
                show am_wp L xs _ _ _ _ 97 [.ref 0, .int 1, .int (nI k2), .int 0, .int x4, .int (nI k5), .ref 67, .ref 65] [.int 0] (am_S b) h _
                refine wp_if_f rfl (show ¬ (¬ (0 : Int32) = 0) from by decide) ?_
                refine wp_run 2 (pc' := 102) (ls' := [.ref 0, .int 1, .int (nI k2), .int 0, .int x4, .int (nI k5), .ref 67, .ref 65]) (st' := [.int 1, .ref 0]) rfl ?_
                refine wp_callV (o := 0) (as := [.int 1]) (rest := []) (els := [.ref 0, .int 1]) rfl rfl rfl rfl rfl rfl rfl rfl (by omega) ?_
                refine sp_refuse1 (by omega) ?_
                show am_wp L xs _ _ _ _ 105 [.ref 0, .int 1, .int (nI k2), .int 0, .int x4, .int (nI k5), .ref 67, .ref 65] [.int (-1000000001)] (am_S b) (am_u h 73 1 (h 73 1 + 1)) _
                refine wp_ret rfl ?_
                refine kk _ _ _ (fun ms2 Q2 kk2 => ?_)
                refine wp_run 6 (pc' := 8) (ls' := [.ref 74, .int 1, .int (nI k2), .int 0, .int x4, .int (nI k5), am_du, am_du, am_du]) (st' := [.int (nI k5), .int x4, .int 0, .int (nI k2), .int 1, .ref 74]) rfl ?_
                refine wp_callV (o := 74) (as := [.int 1, .int (nI k2), .int 0, .int x4, .int (nI k5)]) (rest := []) (els := [.ref 74, .int 1, .int (nI k2), .int 0, .int x4, .int (nI k5), am_du]) rfl rfl rfl rfl rfl rfl rfl rfl (by omega) ?_
                refine wp_run 1 (pc' := 1) (ls' := [.ref 74, .int 1, .int (nI k2), .int 0, .int x4, .int (nI k5), am_du]) (st' := [.int 1]) rfl ?_
                refine wp_callS (as := [.int 1]) (rest := []) (els := [.int 1]) rfl rfl rfl rfl rfl rfl rfl rfl (by omega) ?_
                refine sp_m_isSheet (by omega) (fun _ _ _ => ?_) (fun q => absurd rfl (q 1 (by omega)))
                show am_wp L xs _ _ _ _ 4 [.ref 74, .int 1, .int (nI k2), .int 0, .int x4, .int (nI k5), am_du] [.int 1] (am_S b) (am_u h 73 1 (h 73 1 + 1)) _
                refine wp_if_f rfl (show ¬ ((1 : Int32) = 0) from by decide) ?_
                refine wp_run 1 (pc' := 8) (ls' := [.ref 74, .int 1, .int (nI k2), .int 0, .int x4, .int (nI k5), am_du]) (st' := [.int 0]) rfl ?_
                refine wp_callS (as := [.int 0]) (rest := []) (els := [.int 0]) rfl rfl rfl rfl rfl rfl rfl rfl (by omega) ?_
                refine sp_m_isSheet (by omega) (fun _ _ _ => ?_) (fun q => absurd rfl (q 0 (by omega)))
                show am_wp L xs _ _ _ _ 11 [.ref 74, .int 1, .int (nI k2), .int 0, .int x4, .int (nI k5), am_du] [.int 1] (am_S b) (am_u h 73 1 (h 73 1 + 1)) _
                refine wp_if_t rfl (show ¬ (1 : Int32) = 0 from by decide) ?_
                refine wp_run 1 (pc' := 18) (ls' := [.ref 74, .int 1, .int (nI k2), .int 0, .int x4, .int (nI k5), am_du]) (st' := [.ref 74]) rfl ?_
                refine wp_getr 78 rfl rfl rfl ?_
                refine wp_run 1 (pc' := 22) (ls' := [.ref 74, .int 1, .int (nI k2), .int 0, .int x4, .int (nI k5), am_du]) (st' := [.int 1, .ref 78]) rfl ?_
                refine wp_ald (i := 1) (h 78 1) rfl rfl rfl rfl (by decide) rfl ?_
                refine wp_if_f rfl (show ¬ ((h 78 1) = 0) from (fun q => cqz0 (hob.trans q))) ?_
                refine wp_run 1 (pc' := 27) (ls' := [.ref 74, .int 1, .int (nI k2), .int 0, .int x4, .int (nI k5), am_du]) (st' := [.ref 74]) rfl ?_
                refine wp_getr 78 rfl rfl rfl ?_
                refine wp_run 1 (pc' := 31) (ls' := [.ref 74, .int 1, .int (nI k2), .int 0, .int x4, .int (nI k5), am_du]) (st' := [.int 0, .ref 78]) rfl ?_
                refine wp_ald (i := 0) (h 78 0) rfl rfl rfl rfl (by decide) rfl ?_
                refine wp_if_t rfl (show ¬ (h 78 0) = 0 from (fun q => cqz1 (hobB.trans q))) ?_
                refine wp_run 1 (pc' := 39) (ls' := [.ref 74, .int 1, .int (nI k2), .int 0, .int x4, .int (nI k5), am_du]) (st' := [.ref 74]) rfl ?_
                refine wp_getr 78 rfl rfl rfl ?_
                refine wp_run 1 (pc' := 43) (ls' := [.ref 74, .int 1, .int (nI k2), .int 0, .int x4, .int (nI k5), am_du]) (st' := [.int 1, .ref 78]) rfl ?_
                refine wp_ald (i := 1) (h 78 1) rfl rfl rfl rfl (by decide) rfl ?_
                refine wp_run 1 (pc' := 45) (ls' := [.ref 74, .int 1, .int (nI k2), .int 0, .int x4, .int (nI k5), am_du]) (st' := [.ref 74, .int (h 78 1)]) rfl ?_
                refine wp_getr 78 rfl rfl rfl ?_
                refine wp_run 1 (pc' := 49) (ls' := [.ref 74, .int 1, .int (nI k2), .int 0, .int x4, .int (nI k5), am_du]) (st' := [.int 0, .ref 78, .int (h 78 1)]) rfl ?_
                refine wp_ald (i := 0) (h 78 0) rfl rfl rfl rfl (by decide) rfl ?_
                refine wp_icmp_t rfl (show (h 78 1) = (h 78 0) from (hob.symm.trans (cqe.trans hobB))) ?_
                refine wp_run 1 (pc' := 58) (ls' := [.ref 74, .int 1, .int (nI k2), .int 0, .int x4, .int (nI k5), am_du]) (st' := [.int (nI k5)]) rfl ?_
                refine wp_if_f rfl (show ¬ ((nI k5) < 0) from mt (nI_ltI (a := k5) (b := 0) (by omega) (by omega)).mp (by omega)) ?_
                refine wp_run 1 (pc' := 62) (ls' := [.ref 74, .int 1, .int (nI k2), .int 0, .int x4, .int (nI k5), am_du]) (st' := [.int (nI k2)]) rfl ?_
                refine wp_if_f rfl (show ¬ ((nI k2) < 0) from mt (nI_ltI (a := k2) (b := 0) (by omega) (by omega)).mp (by omega)) ?_
                refine wp_run 1 (pc' := 67) (ls' := [.ref 74, .int 1, .int (nI k2), .int 0, .int x4, .int (nI k5), am_du]) (st' := [.int x4]) rfl ?_
                refine wp_if rfl (fun (cq67 : x4 < 0) => ?_) (fun (cq67 : ¬ (x4 < 0)) => ?_)
                · skip
                  refine wp_run 3 (pc' := 106) (ls' := [.ref 74, .int 1, .int (nI k2), .int 0, .int x4, .int (nI k5), .int 0]) (st' := [.int 0]) rfl ?_
                  refine wp_if_t rfl (show (0 : Int32) = 0 from by decide) ?_
                  refine wp_run 1 (pc' := 115) (ls' := [.ref 74, .int 1, .int (nI k2), .int 0, .int x4, .int (nI k5), .int 0]) (st' := [.int (-1000000001)]) rfl ?_
                  refine wp_ret rfl ?_
                  show am_wp L xs _ _ _ _ 11 [.ref 74, .int 1, .int (nI k2), .int 0, .int x4, .int (nI k5), am_du, am_du, am_du] [.int (-1000000001)] (am_S b) (am_u h 73 1 (h 73 1 + 1)) _
                  refine wp_run 2 (pc' := 15) (ls' := [.ref 74, .int 1, .int (nI k2), .int 0, .int x4, .int (nI k5), .int (-1000000001), am_du, am_du]) (st' := [.int (-1000000001)]) rfl ?_
                  refine wp_if_f rfl (show ¬ (((-1000000001) : Int32) = 0) from by decide) ?_
                  refine wp_run 2 (pc' := 21) (ls' := [.ref 74, .int 1, .int (nI k2), .int 0, .int x4, .int (nI k5), .int (-1000000001), am_du, am_du]) (st' := [.int (-1000000001), .ref 74]) rfl ?_
                  refine wp_callV (o := 74) (as := [.int (-1000000001)]) (rest := []) (els := [.ref 74, .int (-1000000001)]) rfl rfl rfl rfl rfl rfl rfl rfl (by omega) ?_
                  refine sp_error1 ?_
                  show am_wp L xs _ _ _ _ 24 [.ref 74, .int 1, .int (nI k2), .int 0, .int x4, .int (nI k5), .int (-1000000001), am_du, am_du] [.int (-1000000001)] (am_S b) (am_u (am_u h 73 1 (h 73 1 + 1)) 77 1 ((am_u h 73 1 (h 73 1 + 1)) 77 1 + 1)) _
                  refine wp_ret rfl ?_
                  exact kk2 _ _ (re_err1 hR)
                · skip
                  obtain ⟨k4, hk4, ek4⟩ := pu_nonneg (Int32.not_lt.mp cq67)
                  subst ek4
                  refine wp_run 2 (pc' := 73) (ls' := [.ref 74, .int 1, .int (nI k2), .int 0, .int (nI k4), .int (nI k5), am_du]) (st' := [.ref 74, .int (nI k5)]) rfl ?_
                  refine wp_getr 79 rfl rfl rfl ?_
                  refine wp_run 1 (pc' := 77) (ls' := [.ref 74, .int 1, .int (nI k2), .int 0, .int (nI k4), .int (nI k5), am_du]) (st' := [.int 1, .ref 79, .int (nI k5)]) rfl ?_
                  refine wp_ald (i := 1) (nI l) hz2 rfl rfl rfl (by decide) rfl ?_
                  refine wp_run 2 (pc' := 80) (ls' := [.ref 74, .int 1, .int (nI k2), .int 0, .int (nI k4), .int (nI k5), am_du]) (st' := [.int ((nI l) - (nI k2)), .int (nI k5)]) rfl ?_
                  refine wp_icmp_f rfl (show ¬ (((nI l) - (nI k2)) < (nI k5)) from Int32.not_lt.mpr ((pu_suble (by omega) (by omega) hl24).mpr (by omega))) ?_
                  refine wp_run 2 (pc' := 86) (ls' := [.ref 74, .int 1, .int (nI k2), .int 0, .int (nI k4), .int (nI k5), am_du]) (st' := [.ref 74, .int (nI k5)]) rfl ?_
                  refine wp_getr 79 rfl rfl rfl ?_
                  refine wp_run 1 (pc' := 90) (ls' := [.ref 74, .int 1, .int (nI k2), .int 0, .int (nI k4), .int (nI k5), am_du]) (st' := [.int 0, .ref 79, .int (nI k5)]) rfl ?_
                  refine wp_ald (i := 0) (nI lB) hz2B rfl rfl rfl (by decide) rfl ?_
                  refine wp_run 2 (pc' := 94) (ls' := [.ref 74, .int 1, .int (nI k2), .int 0, .int (nI k4), .int (nI k5), am_du]) (st' := [.int ((nI lB) - (nI k4)), .int (nI k5)]) rfl ?_
                  refine wp_icmp_t rfl (show ((nI lB) - (nI k4)) < (nI k5) from Int32.not_le.mp (fun q => hno2 k4 k5 rfl rfl (by have := (pu_suble (by omega) (by omega) hl24B).mp q; omega))) ?_
                  refine wp_run 3 (pc' := 106) (ls' := [.ref 74, .int 1, .int (nI k2), .int 0, .int (nI k4), .int (nI k5), .int 0]) (st' := [.int 0]) rfl ?_
                  refine wp_if_t rfl (show (0 : Int32) = 0 from by decide) ?_
                  refine wp_run 1 (pc' := 115) (ls' := [.ref 74, .int 1, .int (nI k2), .int 0, .int (nI k4), .int (nI k5), .int 0]) (st' := [.int (-1000000001)]) rfl ?_
                  refine wp_ret rfl ?_
                  show am_wp L xs _ _ _ _ 11 [.ref 74, .int 1, .int (nI k2), .int 0, .int (nI k4), .int (nI k5), am_du, am_du, am_du] [.int (-1000000001)] (am_S b) (am_u h 73 1 (h 73 1 + 1)) _
                  refine wp_run 2 (pc' := 15) (ls' := [.ref 74, .int 1, .int (nI k2), .int 0, .int (nI k4), .int (nI k5), .int (-1000000001), am_du, am_du]) (st' := [.int (-1000000001)]) rfl ?_
                  refine wp_if_f rfl (show ¬ (((-1000000001) : Int32) = 0) from by decide) ?_
                  refine wp_run 2 (pc' := 21) (ls' := [.ref 74, .int 1, .int (nI k2), .int 0, .int (nI k4), .int (nI k5), .int (-1000000001), am_du, am_du]) (st' := [.int (-1000000001), .ref 74]) rfl ?_
                  refine wp_callV (o := 74) (as := [.int (-1000000001)]) (rest := []) (els := [.ref 74, .int (-1000000001)]) rfl rfl rfl rfl rfl rfl rfl rfl (by omega) ?_
                  refine sp_error1 ?_
                  show am_wp L xs _ _ _ _ 24 [.ref 74, .int 1, .int (nI k2), .int 0, .int (nI k4), .int (nI k5), .int (-1000000001), am_du, am_du] [.int (-1000000001)] (am_S b) (am_u (am_u h 73 1 (h 73 1 + 1)) 77 1 ((am_u h 73 1 (h 73 1 + 1)) 77 1 + 1)) _
                  refine wp_ret rfl ?_
                  exact kk2 _ _ (re_err1 hR)
            · skip
              intro hno1
              show am_wp L xs _ _ _ _ 85 [.ref 0, .int 1, .int x2, .int 0, .int x4, .int x5, .ref 67, .ref 65] [.int 0] (am_S b) h _
              refine wp_if_t rfl (show (0 : Int32) = 0 from by decide) ?_
              refine wp_run 2 (pc' := 102) (ls' := [.ref 0, .int 1, .int x2, .int 0, .int x4, .int x5, .ref 67, .ref 65]) (st' := [.int 1, .ref 0]) rfl ?_
              refine wp_callV (o := 0) (as := [.int 1]) (rest := []) (els := [.ref 0, .int 1]) rfl rfl rfl rfl rfl rfl rfl rfl (by omega) ?_
              refine sp_refuse1 (by omega) ?_
              show am_wp L xs _ _ _ _ 105 [.ref 0, .int 1, .int x2, .int 0, .int x4, .int x5, .ref 67, .ref 65] [.int (-1000000001)] (am_S b) (am_u h 73 1 (h 73 1 + 1)) _
              refine wp_ret rfl ?_
              refine kk _ _ _ (fun ms2 Q2 kk2 => ?_)
              refine wp_run 6 (pc' := 8) (ls' := [.ref 74, .int 1, .int x2, .int 0, .int x4, .int x5, am_du, am_du, am_du]) (st' := [.int x5, .int x4, .int 0, .int x2, .int 1, .ref 74]) rfl ?_
              refine wp_callV (o := 74) (as := [.int 1, .int x2, .int 0, .int x4, .int x5]) (rest := []) (els := [.ref 74, .int 1, .int x2, .int 0, .int x4, .int x5, am_du]) rfl rfl rfl rfl rfl rfl rfl rfl (by omega) ?_
              refine wp_run 1 (pc' := 1) (ls' := [.ref 74, .int 1, .int x2, .int 0, .int x4, .int x5, am_du]) (st' := [.int 1]) rfl ?_
              refine wp_callS (as := [.int 1]) (rest := []) (els := [.int 1]) rfl rfl rfl rfl rfl rfl rfl rfl (by omega) ?_
              refine sp_m_isSheet (by omega) (fun _ _ _ => ?_) (fun q => absurd rfl (q 1 (by omega)))
              show am_wp L xs _ _ _ _ 4 [.ref 74, .int 1, .int x2, .int 0, .int x4, .int x5, am_du] [.int 1] (am_S b) (am_u h 73 1 (h 73 1 + 1)) _
              refine wp_if_f rfl (show ¬ ((1 : Int32) = 0) from by decide) ?_
              refine wp_run 1 (pc' := 8) (ls' := [.ref 74, .int 1, .int x2, .int 0, .int x4, .int x5, am_du]) (st' := [.int 0]) rfl ?_
              refine wp_callS (as := [.int 0]) (rest := []) (els := [.int 0]) rfl rfl rfl rfl rfl rfl rfl rfl (by omega) ?_
              refine sp_m_isSheet (by omega) (fun _ _ _ => ?_) (fun q => absurd rfl (q 0 (by omega)))
              show am_wp L xs _ _ _ _ 11 [.ref 74, .int 1, .int x2, .int 0, .int x4, .int x5, am_du] [.int 1] (am_S b) (am_u h 73 1 (h 73 1 + 1)) _
              refine wp_if_t rfl (show ¬ (1 : Int32) = 0 from by decide) ?_
              refine wp_run 1 (pc' := 18) (ls' := [.ref 74, .int 1, .int x2, .int 0, .int x4, .int x5, am_du]) (st' := [.ref 74]) rfl ?_
              refine wp_getr 78 rfl rfl rfl ?_
              refine wp_run 1 (pc' := 22) (ls' := [.ref 74, .int 1, .int x2, .int 0, .int x4, .int x5, am_du]) (st' := [.int 1, .ref 78]) rfl ?_
              refine wp_ald (i := 1) (h 78 1) rfl rfl rfl rfl (by decide) rfl ?_
              refine wp_if_f rfl (show ¬ ((h 78 1) = 0) from (fun q => cqz0 (hob.trans q))) ?_
              refine wp_run 1 (pc' := 27) (ls' := [.ref 74, .int 1, .int x2, .int 0, .int x4, .int x5, am_du]) (st' := [.ref 74]) rfl ?_
              refine wp_getr 78 rfl rfl rfl ?_
              refine wp_run 1 (pc' := 31) (ls' := [.ref 74, .int 1, .int x2, .int 0, .int x4, .int x5, am_du]) (st' := [.int 0, .ref 78]) rfl ?_
              refine wp_ald (i := 0) (h 78 0) rfl rfl rfl rfl (by decide) rfl ?_
              refine wp_if_t rfl (show ¬ (h 78 0) = 0 from (fun q => cqz1 (hobB.trans q))) ?_
              refine wp_run 1 (pc' := 39) (ls' := [.ref 74, .int 1, .int x2, .int 0, .int x4, .int x5, am_du]) (st' := [.ref 74]) rfl ?_
              refine wp_getr 78 rfl rfl rfl ?_
              refine wp_run 1 (pc' := 43) (ls' := [.ref 74, .int 1, .int x2, .int 0, .int x4, .int x5, am_du]) (st' := [.int 1, .ref 78]) rfl ?_
              refine wp_ald (i := 1) (h 78 1) rfl rfl rfl rfl (by decide) rfl ?_
              refine wp_run 1 (pc' := 45) (ls' := [.ref 74, .int 1, .int x2, .int 0, .int x4, .int x5, am_du]) (st' := [.ref 74, .int (h 78 1)]) rfl ?_
              refine wp_getr 78 rfl rfl rfl ?_
              refine wp_run 1 (pc' := 49) (ls' := [.ref 74, .int 1, .int x2, .int 0, .int x4, .int x5, am_du]) (st' := [.int 0, .ref 78, .int (h 78 1)]) rfl ?_
              refine wp_ald (i := 0) (h 78 0) rfl rfl rfl rfl (by decide) rfl ?_
              refine wp_icmp_t rfl (show (h 78 1) = (h 78 0) from (hob.symm.trans (cqe.trans hobB))) ?_
              refine wp_run 1 (pc' := 58) (ls' := [.ref 74, .int 1, .int x2, .int 0, .int x4, .int x5, am_du]) (st' := [.int x5]) rfl ?_
              refine wp_if rfl (fun (cq58 : x5 < 0) => ?_) (fun (cq58 : ¬ (x5 < 0)) => ?_)
              · skip
                refine wp_run 3 (pc' := 106) (ls' := [.ref 74, .int 1, .int x2, .int 0, .int x4, .int x5, .int 0]) (st' := [.int 0]) rfl ?_
                refine wp_if_t rfl (show (0 : Int32) = 0 from by decide) ?_
                refine wp_run 1 (pc' := 115) (ls' := [.ref 74, .int 1, .int x2, .int 0, .int x4, .int x5, .int 0]) (st' := [.int (-1000000001)]) rfl ?_
                refine wp_ret rfl ?_
                show am_wp L xs _ _ _ _ 11 [.ref 74, .int 1, .int x2, .int 0, .int x4, .int x5, am_du, am_du, am_du] [.int (-1000000001)] (am_S b) (am_u h 73 1 (h 73 1 + 1)) _
                refine wp_run 2 (pc' := 15) (ls' := [.ref 74, .int 1, .int x2, .int 0, .int x4, .int x5, .int (-1000000001), am_du, am_du]) (st' := [.int (-1000000001)]) rfl ?_
                refine wp_if_f rfl (show ¬ (((-1000000001) : Int32) = 0) from by decide) ?_
                refine wp_run 2 (pc' := 21) (ls' := [.ref 74, .int 1, .int x2, .int 0, .int x4, .int x5, .int (-1000000001), am_du, am_du]) (st' := [.int (-1000000001), .ref 74]) rfl ?_
                refine wp_callV (o := 74) (as := [.int (-1000000001)]) (rest := []) (els := [.ref 74, .int (-1000000001)]) rfl rfl rfl rfl rfl rfl rfl rfl (by omega) ?_
                refine sp_error1 ?_
                show am_wp L xs _ _ _ _ 24 [.ref 74, .int 1, .int x2, .int 0, .int x4, .int x5, .int (-1000000001), am_du, am_du] [.int (-1000000001)] (am_S b) (am_u (am_u h 73 1 (h 73 1 + 1)) 77 1 ((am_u h 73 1 (h 73 1 + 1)) 77 1 + 1)) _
                refine wp_ret rfl ?_
                exact kk2 _ _ (re_err1 hR)
              · skip
                obtain ⟨k5, hk5, ek5⟩ := pu_nonneg (Int32.not_lt.mp cq58)
                subst ek5
                refine wp_run 1 (pc' := 62) (ls' := [.ref 74, .int 1, .int x2, .int 0, .int x4, .int (nI k5), am_du]) (st' := [.int x2]) rfl ?_
                refine wp_if rfl (fun (cq62 : x2 < 0) => ?_) (fun (cq62 : ¬ (x2 < 0)) => ?_)
                · skip
                  refine wp_run 3 (pc' := 106) (ls' := [.ref 74, .int 1, .int x2, .int 0, .int x4, .int (nI k5), .int 0]) (st' := [.int 0]) rfl ?_
                  refine wp_if_t rfl (show (0 : Int32) = 0 from by decide) ?_
                  refine wp_run 1 (pc' := 115) (ls' := [.ref 74, .int 1, .int x2, .int 0, .int x4, .int (nI k5), .int 0]) (st' := [.int (-1000000001)]) rfl ?_
                  refine wp_ret rfl ?_
                  show am_wp L xs _ _ _ _ 11 [.ref 74, .int 1, .int x2, .int 0, .int x4, .int (nI k5), am_du, am_du, am_du] [.int (-1000000001)] (am_S b) (am_u h 73 1 (h 73 1 + 1)) _
                  refine wp_run 2 (pc' := 15) (ls' := [.ref 74, .int 1, .int x2, .int 0, .int x4, .int (nI k5), .int (-1000000001), am_du, am_du]) (st' := [.int (-1000000001)]) rfl ?_
                  refine wp_if_f rfl (show ¬ (((-1000000001) : Int32) = 0) from by decide) ?_
                  refine wp_run 2 (pc' := 21) (ls' := [.ref 74, .int 1, .int x2, .int 0, .int x4, .int (nI k5), .int (-1000000001), am_du, am_du]) (st' := [.int (-1000000001), .ref 74]) rfl ?_
                  refine wp_callV (o := 74) (as := [.int (-1000000001)]) (rest := []) (els := [.ref 74, .int (-1000000001)]) rfl rfl rfl rfl rfl rfl rfl rfl (by omega) ?_
                  refine sp_error1 ?_
                  show am_wp L xs _ _ _ _ 24 [.ref 74, .int 1, .int x2, .int 0, .int x4, .int (nI k5), .int (-1000000001), am_du, am_du] [.int (-1000000001)] (am_S b) (am_u (am_u h 73 1 (h 73 1 + 1)) 77 1 ((am_u h 73 1 (h 73 1 + 1)) 77 1 + 1)) _
                  refine wp_ret rfl ?_
                  exact kk2 _ _ (re_err1 hR)
                · skip
                  obtain ⟨k2, hk2, ek2⟩ := pu_nonneg (Int32.not_lt.mp cq62)
                  subst ek2
                  refine wp_run 1 (pc' := 67) (ls' := [.ref 74, .int 1, .int (nI k2), .int 0, .int x4, .int (nI k5), am_du]) (st' := [.int x4]) rfl ?_
                  refine wp_if rfl (fun (cq67 : x4 < 0) => ?_) (fun (cq67 : ¬ (x4 < 0)) => ?_)
                  · skip
                    refine wp_run 3 (pc' := 106) (ls' := [.ref 74, .int 1, .int (nI k2), .int 0, .int x4, .int (nI k5), .int 0]) (st' := [.int 0]) rfl ?_
                    refine wp_if_t rfl (show (0 : Int32) = 0 from by decide) ?_
                    refine wp_run 1 (pc' := 115) (ls' := [.ref 74, .int 1, .int (nI k2), .int 0, .int x4, .int (nI k5), .int 0]) (st' := [.int (-1000000001)]) rfl ?_
                    refine wp_ret rfl ?_
                    show am_wp L xs _ _ _ _ 11 [.ref 74, .int 1, .int (nI k2), .int 0, .int x4, .int (nI k5), am_du, am_du, am_du] [.int (-1000000001)] (am_S b) (am_u h 73 1 (h 73 1 + 1)) _
                    refine wp_run 2 (pc' := 15) (ls' := [.ref 74, .int 1, .int (nI k2), .int 0, .int x4, .int (nI k5), .int (-1000000001), am_du, am_du]) (st' := [.int (-1000000001)]) rfl ?_
                    refine wp_if_f rfl (show ¬ (((-1000000001) : Int32) = 0) from by decide) ?_
                    refine wp_run 2 (pc' := 21) (ls' := [.ref 74, .int 1, .int (nI k2), .int 0, .int x4, .int (nI k5), .int (-1000000001), am_du, am_du]) (st' := [.int (-1000000001), .ref 74]) rfl ?_
                    refine wp_callV (o := 74) (as := [.int (-1000000001)]) (rest := []) (els := [.ref 74, .int (-1000000001)]) rfl rfl rfl rfl rfl rfl rfl rfl (by omega) ?_
                    refine sp_error1 ?_
                    show am_wp L xs _ _ _ _ 24 [.ref 74, .int 1, .int (nI k2), .int 0, .int x4, .int (nI k5), .int (-1000000001), am_du, am_du] [.int (-1000000001)] (am_S b) (am_u (am_u h 73 1 (h 73 1 + 1)) 77 1 ((am_u h 73 1 (h 73 1 + 1)) 77 1 + 1)) _
                    refine wp_ret rfl ?_
                    exact kk2 _ _ (re_err1 hR)
                  · skip
                    obtain ⟨k4, hk4, ek4⟩ := pu_nonneg (Int32.not_lt.mp cq67)
                    subst ek4
                    refine wp_run 2 (pc' := 73) (ls' := [.ref 74, .int 1, .int (nI k2), .int 0, .int (nI k4), .int (nI k5), am_du]) (st' := [.ref 74, .int (nI k5)]) rfl ?_
                    refine wp_getr 79 rfl rfl rfl ?_
                    refine wp_run 1 (pc' := 77) (ls' := [.ref 74, .int 1, .int (nI k2), .int 0, .int (nI k4), .int (nI k5), am_du]) (st' := [.int 1, .ref 79, .int (nI k5)]) rfl ?_
                    refine wp_ald (i := 1) (nI l) hz2 rfl rfl rfl (by decide) rfl ?_
                    refine wp_run 2 (pc' := 80) (ls' := [.ref 74, .int 1, .int (nI k2), .int 0, .int (nI k4), .int (nI k5), am_du]) (st' := [.int ((nI l) - (nI k2)), .int (nI k5)]) rfl ?_
                    refine wp_icmp_t rfl (show ((nI l) - (nI k2)) < (nI k5) from Int32.not_le.mp (fun q => hno1 k2 k5 rfl rfl (by have := (pu_suble (by omega) (by omega) hl24).mp q; omega))) ?_
                    refine wp_run 3 (pc' := 106) (ls' := [.ref 74, .int 1, .int (nI k2), .int 0, .int (nI k4), .int (nI k5), .int 0]) (st' := [.int 0]) rfl ?_
                    refine wp_if_t rfl (show (0 : Int32) = 0 from by decide) ?_
                    refine wp_run 1 (pc' := 115) (ls' := [.ref 74, .int 1, .int (nI k2), .int 0, .int (nI k4), .int (nI k5), .int 0]) (st' := [.int (-1000000001)]) rfl ?_
                    refine wp_ret rfl ?_
                    show am_wp L xs _ _ _ _ 11 [.ref 74, .int 1, .int (nI k2), .int 0, .int (nI k4), .int (nI k5), am_du, am_du, am_du] [.int (-1000000001)] (am_S b) (am_u h 73 1 (h 73 1 + 1)) _
                    refine wp_run 2 (pc' := 15) (ls' := [.ref 74, .int 1, .int (nI k2), .int 0, .int (nI k4), .int (nI k5), .int (-1000000001), am_du, am_du]) (st' := [.int (-1000000001)]) rfl ?_
                    refine wp_if_f rfl (show ¬ (((-1000000001) : Int32) = 0) from by decide) ?_
                    refine wp_run 2 (pc' := 21) (ls' := [.ref 74, .int 1, .int (nI k2), .int 0, .int (nI k4), .int (nI k5), .int (-1000000001), am_du, am_du]) (st' := [.int (-1000000001), .ref 74]) rfl ?_
                    refine wp_callV (o := 74) (as := [.int (-1000000001)]) (rest := []) (els := [.ref 74, .int (-1000000001)]) rfl rfl rfl rfl rfl rfl rfl rfl (by omega) ?_
                    refine sp_error1 ?_
                    show am_wp L xs _ _ _ _ 24 [.ref 74, .int 1, .int (nI k2), .int 0, .int (nI k4), .int (nI k5), .int (-1000000001), am_du, am_du] [.int (-1000000001)] (am_S b) (am_u (am_u h 73 1 (h 73 1 + 1)) 77 1 ((am_u h 73 1 (h 73 1 + 1)) 77 1 + 1)) _
                    refine wp_ret rfl ?_
                    exact kk2 _ _ (re_err1 hR)
          · skip
            refine wp_run 2 (pc' := 73) (ls' := [.ref 0, .int 1, .int x2, .int 0, .int x4, .int x5, .ref 67, .ref 65]) (st' := [.int 5, .ref 0]) rfl ?_
            refine wp_callV (o := 0) (as := [.int 5]) (rest := []) (els := [.ref 0, .int 5]) rfl rfl rfl rfl rfl rfl rfl rfl (by omega) ?_
            refine sp_refuse5 (by omega) ?_
            show am_wp L xs _ _ _ _ 76 [.ref 0, .int 1, .int x2, .int 0, .int x4, .int x5, .ref 67, .ref 65] [.int (-1000000005)] (am_S b) (am_u h 73 5 (h 73 5 + 1)) _
            refine wp_ret rfl ?_
            refine kk _ _ _ (fun ms2 Q2 kk2 => ?_)
            refine wp_run 6 (pc' := 8) (ls' := [.ref 74, .int 1, .int x2, .int 0, .int x4, .int x5, am_du, am_du, am_du]) (st' := [.int x5, .int x4, .int 0, .int x2, .int 1, .ref 74]) rfl ?_
            refine wp_callV (o := 74) (as := [.int 1, .int x2, .int 0, .int x4, .int x5]) (rest := []) (els := [.ref 74, .int 1, .int x2, .int 0, .int x4, .int x5, am_du]) rfl rfl rfl rfl rfl rfl rfl rfl (by omega) ?_
            refine wp_run 1 (pc' := 1) (ls' := [.ref 74, .int 1, .int x2, .int 0, .int x4, .int x5, am_du]) (st' := [.int 1]) rfl ?_
            refine wp_callS (as := [.int 1]) (rest := []) (els := [.int 1]) rfl rfl rfl rfl rfl rfl rfl rfl (by omega) ?_
            refine sp_m_isSheet (by omega) (fun _ _ _ => ?_) (fun q => absurd rfl (q 1 (by omega)))
            show am_wp L xs _ _ _ _ 4 [.ref 74, .int 1, .int x2, .int 0, .int x4, .int x5, am_du] [.int 1] (am_S b) (am_u h 73 5 (h 73 5 + 1)) _
            refine wp_if_f rfl (show ¬ ((1 : Int32) = 0) from by decide) ?_
            refine wp_run 1 (pc' := 8) (ls' := [.ref 74, .int 1, .int x2, .int 0, .int x4, .int x5, am_du]) (st' := [.int 0]) rfl ?_
            refine wp_callS (as := [.int 0]) (rest := []) (els := [.int 0]) rfl rfl rfl rfl rfl rfl rfl rfl (by omega) ?_
            refine sp_m_isSheet (by omega) (fun _ _ _ => ?_) (fun q => absurd rfl (q 0 (by omega)))
            show am_wp L xs _ _ _ _ 11 [.ref 74, .int 1, .int x2, .int 0, .int x4, .int x5, am_du] [.int 1] (am_S b) (am_u h 73 5 (h 73 5 + 1)) _
            refine wp_if_t rfl (show ¬ (1 : Int32) = 0 from by decide) ?_
            refine wp_run 1 (pc' := 18) (ls' := [.ref 74, .int 1, .int x2, .int 0, .int x4, .int x5, am_du]) (st' := [.ref 74]) rfl ?_
            refine wp_getr 78 rfl rfl rfl ?_
            refine wp_run 1 (pc' := 22) (ls' := [.ref 74, .int 1, .int x2, .int 0, .int x4, .int x5, am_du]) (st' := [.int 1, .ref 78]) rfl ?_
            refine wp_ald (i := 1) (h 78 1) rfl rfl rfl rfl (by decide) rfl ?_
            refine wp_if_f rfl (show ¬ ((h 78 1) = 0) from (fun q => cqz0 (hob.trans q))) ?_
            refine wp_run 1 (pc' := 27) (ls' := [.ref 74, .int 1, .int x2, .int 0, .int x4, .int x5, am_du]) (st' := [.ref 74]) rfl ?_
            refine wp_getr 78 rfl rfl rfl ?_
            refine wp_run 1 (pc' := 31) (ls' := [.ref 74, .int 1, .int x2, .int 0, .int x4, .int x5, am_du]) (st' := [.int 0, .ref 78]) rfl ?_
            refine wp_ald (i := 0) (h 78 0) rfl rfl rfl rfl (by decide) rfl ?_
            refine wp_if_t rfl (show ¬ (h 78 0) = 0 from (fun q => cqz1 (hobB.trans q))) ?_
            refine wp_run 1 (pc' := 39) (ls' := [.ref 74, .int 1, .int x2, .int 0, .int x4, .int x5, am_du]) (st' := [.ref 74]) rfl ?_
            refine wp_getr 78 rfl rfl rfl ?_
            refine wp_run 1 (pc' := 43) (ls' := [.ref 74, .int 1, .int x2, .int 0, .int x4, .int x5, am_du]) (st' := [.int 1, .ref 78]) rfl ?_
            refine wp_ald (i := 1) (h 78 1) rfl rfl rfl rfl (by decide) rfl ?_
            refine wp_run 1 (pc' := 45) (ls' := [.ref 74, .int 1, .int x2, .int 0, .int x4, .int x5, am_du]) (st' := [.ref 74, .int (h 78 1)]) rfl ?_
            refine wp_getr 78 rfl rfl rfl ?_
            refine wp_run 1 (pc' := 49) (ls' := [.ref 74, .int 1, .int x2, .int 0, .int x4, .int x5, am_du]) (st' := [.int 0, .ref 78, .int (h 78 1)]) rfl ?_
            refine wp_ald (i := 0) (h 78 0) rfl rfl rfl rfl (by decide) rfl ?_
            refine wp_icmp_f rfl (show ¬ ((h 78 1) = (h 78 0)) from (fun q => cqe (hob.trans (q.trans hobB.symm)))) ?_
            refine wp_run 1 (pc' := 55) (ls' := [.ref 74, .int 1, .int x2, .int 0, .int x4, .int x5, am_du]) (st' := [.int (-1000000005)]) rfl ?_
            refine wp_ret rfl ?_
            show am_wp L xs _ _ _ _ 11 [.ref 74, .int 1, .int x2, .int 0, .int x4, .int x5, am_du, am_du, am_du] [.int (-1000000005)] (am_S b) (am_u h 73 5 (h 73 5 + 1)) _
            refine wp_run 2 (pc' := 15) (ls' := [.ref 74, .int 1, .int x2, .int 0, .int x4, .int x5, .int (-1000000005), am_du, am_du]) (st' := [.int (-1000000005)]) rfl ?_
            refine wp_if_f rfl (show ¬ (((-1000000005) : Int32) = 0) from by decide) ?_
            refine wp_run 2 (pc' := 21) (ls' := [.ref 74, .int 1, .int x2, .int 0, .int x4, .int x5, .int (-1000000005), am_du, am_du]) (st' := [.int (-1000000005), .ref 74]) rfl ?_
            refine wp_callV (o := 74) (as := [.int (-1000000005)]) (rest := []) (els := [.ref 74, .int (-1000000005)]) rfl rfl rfl rfl rfl rfl rfl rfl (by omega) ?_
            refine sp_error5 ?_
            show am_wp L xs _ _ _ _ 24 [.ref 74, .int 1, .int x2, .int 0, .int x4, .int x5, .int (-1000000005), am_du, am_du] [.int (-1000000005)] (am_S b) (am_u (am_u h 73 5 (h 73 5 + 1)) 77 5 ((am_u h 73 5 (h 73 5 + 1)) 77 5 + 1)) _
            refine wp_ret rfl ?_
            exact kk2 _ _ (re_err5 hR)
        · skip
          replace cqz1 := Decidable.not_not.mp cqz1
          refine wp_run 2 (pc' := 12) (ls' := [.ref 65]) (st' := [.int 1]) rfl ?_
          refine wp_retz rfl (Or.inr rfl) ?_
          show am_wp L xs _ _ _ _ 49 [.ref 0, .int 1, .int x2, .int 0, .int x4, .int x5, .ref 67, .ref 65] [.int 1] (am_S b) h _
          refine wp_if_f rfl (show ¬ ((1 : Int32) = 0) from by decide) ?_
          refine wp_run 2 (pc' := 54) (ls' := [.ref 0, .int 1, .int x2, .int 0, .int x4, .int x5, .ref 67, .ref 65]) (st' := [.int 2, .ref 0]) rfl ?_
          refine wp_callV (o := 0) (as := [.int 2]) (rest := []) (els := [.ref 0, .int 2]) rfl rfl rfl rfl rfl rfl rfl rfl (by omega) ?_
          refine sp_refuse2 (by omega) ?_
          show am_wp L xs _ _ _ _ 57 [.ref 0, .int 1, .int x2, .int 0, .int x4, .int x5, .ref 67, .ref 65] [.int (-1000000002)] (am_S b) (am_u h 73 2 (h 73 2 + 1)) _
          refine wp_ret rfl ?_
          refine kk _ _ _ (fun ms2 Q2 kk2 => ?_)
          refine wp_run 6 (pc' := 8) (ls' := [.ref 74, .int 1, .int x2, .int 0, .int x4, .int x5, am_du, am_du, am_du]) (st' := [.int x5, .int x4, .int 0, .int x2, .int 1, .ref 74]) rfl ?_
          refine wp_callV (o := 74) (as := [.int 1, .int x2, .int 0, .int x4, .int x5]) (rest := []) (els := [.ref 74, .int 1, .int x2, .int 0, .int x4, .int x5, am_du]) rfl rfl rfl rfl rfl rfl rfl rfl (by omega) ?_
          refine wp_run 1 (pc' := 1) (ls' := [.ref 74, .int 1, .int x2, .int 0, .int x4, .int x5, am_du]) (st' := [.int 1]) rfl ?_
          refine wp_callS (as := [.int 1]) (rest := []) (els := [.int 1]) rfl rfl rfl rfl rfl rfl rfl rfl (by omega) ?_
          refine sp_m_isSheet (by omega) (fun _ _ _ => ?_) (fun q => absurd rfl (q 1 (by omega)))
          show am_wp L xs _ _ _ _ 4 [.ref 74, .int 1, .int x2, .int 0, .int x4, .int x5, am_du] [.int 1] (am_S b) (am_u h 73 2 (h 73 2 + 1)) _
          refine wp_if_f rfl (show ¬ ((1 : Int32) = 0) from by decide) ?_
          refine wp_run 1 (pc' := 8) (ls' := [.ref 74, .int 1, .int x2, .int 0, .int x4, .int x5, am_du]) (st' := [.int 0]) rfl ?_
          refine wp_callS (as := [.int 0]) (rest := []) (els := [.int 0]) rfl rfl rfl rfl rfl rfl rfl rfl (by omega) ?_
          refine sp_m_isSheet (by omega) (fun _ _ _ => ?_) (fun q => absurd rfl (q 0 (by omega)))
          show am_wp L xs _ _ _ _ 11 [.ref 74, .int 1, .int x2, .int 0, .int x4, .int x5, am_du] [.int 1] (am_S b) (am_u h 73 2 (h 73 2 + 1)) _
          refine wp_if_t rfl (show ¬ (1 : Int32) = 0 from by decide) ?_
          refine wp_run 1 (pc' := 18) (ls' := [.ref 74, .int 1, .int x2, .int 0, .int x4, .int x5, am_du]) (st' := [.ref 74]) rfl ?_
          refine wp_getr 78 rfl rfl rfl ?_
          refine wp_run 1 (pc' := 22) (ls' := [.ref 74, .int 1, .int x2, .int 0, .int x4, .int x5, am_du]) (st' := [.int 1, .ref 78]) rfl ?_
          refine wp_ald (i := 1) (h 78 1) rfl rfl rfl rfl (by decide) rfl ?_
          refine wp_if_f rfl (show ¬ ((h 78 1) = 0) from (fun q => cqz0 (hob.trans q))) ?_
          refine wp_run 1 (pc' := 27) (ls' := [.ref 74, .int 1, .int x2, .int 0, .int x4, .int x5, am_du]) (st' := [.ref 74]) rfl ?_
          refine wp_getr 78 rfl rfl rfl ?_
          refine wp_run 1 (pc' := 31) (ls' := [.ref 74, .int 1, .int x2, .int 0, .int x4, .int x5, am_du]) (st' := [.int 0, .ref 78]) rfl ?_
          refine wp_ald (i := 0) (h 78 0) rfl rfl rfl rfl (by decide) rfl ?_
          refine wp_if_f rfl (show ¬ (¬ (h 78 0) = 0) from (fun q => q (hobB.symm.trans cqz1))) ?_
          refine wp_run 1 (pc' := 37) (ls' := [.ref 74, .int 1, .int x2, .int 0, .int x4, .int x5, am_du]) (st' := [.int (-1000000002)]) rfl ?_
          refine wp_ret rfl ?_
          show am_wp L xs _ _ _ _ 11 [.ref 74, .int 1, .int x2, .int 0, .int x4, .int x5, am_du, am_du, am_du] [.int (-1000000002)] (am_S b) (am_u h 73 2 (h 73 2 + 1)) _
          refine wp_run 2 (pc' := 15) (ls' := [.ref 74, .int 1, .int x2, .int 0, .int x4, .int x5, .int (-1000000002), am_du, am_du]) (st' := [.int (-1000000002)]) rfl ?_
          refine wp_if_f rfl (show ¬ (((-1000000002) : Int32) = 0) from by decide) ?_
          refine wp_run 2 (pc' := 21) (ls' := [.ref 74, .int 1, .int x2, .int 0, .int x4, .int x5, .int (-1000000002), am_du, am_du]) (st' := [.int (-1000000002), .ref 74]) rfl ?_
          refine wp_callV (o := 74) (as := [.int (-1000000002)]) (rest := []) (els := [.ref 74, .int (-1000000002)]) rfl rfl rfl rfl rfl rfl rfl rfl (by omega) ?_
          refine sp_error2 ?_
          show am_wp L xs _ _ _ _ 24 [.ref 74, .int 1, .int x2, .int 0, .int x4, .int x5, .int (-1000000002), am_du, am_du] [.int (-1000000002)] (am_S b) (am_u (am_u h 73 2 (h 73 2 + 1)) 77 2 ((am_u h 73 2 (h 73 2 + 1)) 77 2 + 1)) _
          refine wp_ret rfl ?_
          exact kk2 _ _ (re_err2 hR)
      · skip
        replace cqz0 := Decidable.not_not.mp cqz0
        refine wp_run 2 (pc' := 12) (ls' := [.ref 67]) (st' := [.int 1]) rfl ?_
        refine wp_retz rfl (Or.inr rfl) ?_
        show am_wp L xs _ _ _ _ 41 [.ref 0, .int 1, .int x2, .int 0, .int x4, .int x5, .ref 67, .ref 65] [.int 1] (am_S b) h _
        refine wp_if_t rfl (show ¬ (1 : Int32) = 0 from by decide) ?_
        refine wp_run 2 (pc' := 54) (ls' := [.ref 0, .int 1, .int x2, .int 0, .int x4, .int x5, .ref 67, .ref 65]) (st' := [.int 2, .ref 0]) rfl ?_
        refine wp_callV (o := 0) (as := [.int 2]) (rest := []) (els := [.ref 0, .int 2]) rfl rfl rfl rfl rfl rfl rfl rfl (by omega) ?_
        refine sp_refuse2 (by omega) ?_
        show am_wp L xs _ _ _ _ 57 [.ref 0, .int 1, .int x2, .int 0, .int x4, .int x5, .ref 67, .ref 65] [.int (-1000000002)] (am_S b) (am_u h 73 2 (h 73 2 + 1)) _
        refine wp_ret rfl ?_
        refine kk _ _ _ (fun ms2 Q2 kk2 => ?_)
        refine wp_run 6 (pc' := 8) (ls' := [.ref 74, .int 1, .int x2, .int 0, .int x4, .int x5, am_du, am_du, am_du]) (st' := [.int x5, .int x4, .int 0, .int x2, .int 1, .ref 74]) rfl ?_
        refine wp_callV (o := 74) (as := [.int 1, .int x2, .int 0, .int x4, .int x5]) (rest := []) (els := [.ref 74, .int 1, .int x2, .int 0, .int x4, .int x5, am_du]) rfl rfl rfl rfl rfl rfl rfl rfl (by omega) ?_
        refine wp_run 1 (pc' := 1) (ls' := [.ref 74, .int 1, .int x2, .int 0, .int x4, .int x5, am_du]) (st' := [.int 1]) rfl ?_
        refine wp_callS (as := [.int 1]) (rest := []) (els := [.int 1]) rfl rfl rfl rfl rfl rfl rfl rfl (by omega) ?_
        refine sp_m_isSheet (by omega) (fun _ _ _ => ?_) (fun q => absurd rfl (q 1 (by omega)))
        show am_wp L xs _ _ _ _ 4 [.ref 74, .int 1, .int x2, .int 0, .int x4, .int x5, am_du] [.int 1] (am_S b) (am_u h 73 2 (h 73 2 + 1)) _
        refine wp_if_f rfl (show ¬ ((1 : Int32) = 0) from by decide) ?_
        refine wp_run 1 (pc' := 8) (ls' := [.ref 74, .int 1, .int x2, .int 0, .int x4, .int x5, am_du]) (st' := [.int 0]) rfl ?_
        refine wp_callS (as := [.int 0]) (rest := []) (els := [.int 0]) rfl rfl rfl rfl rfl rfl rfl rfl (by omega) ?_
        refine sp_m_isSheet (by omega) (fun _ _ _ => ?_) (fun q => absurd rfl (q 0 (by omega)))
        show am_wp L xs _ _ _ _ 11 [.ref 74, .int 1, .int x2, .int 0, .int x4, .int x5, am_du] [.int 1] (am_S b) (am_u h 73 2 (h 73 2 + 1)) _
        refine wp_if_t rfl (show ¬ (1 : Int32) = 0 from by decide) ?_
        refine wp_run 1 (pc' := 18) (ls' := [.ref 74, .int 1, .int x2, .int 0, .int x4, .int x5, am_du]) (st' := [.ref 74]) rfl ?_
        refine wp_getr 78 rfl rfl rfl ?_
        refine wp_run 1 (pc' := 22) (ls' := [.ref 74, .int 1, .int x2, .int 0, .int x4, .int x5, am_du]) (st' := [.int 1, .ref 78]) rfl ?_
        refine wp_ald (i := 1) (h 78 1) rfl rfl rfl rfl (by decide) rfl ?_
        refine wp_if_t rfl (show (h 78 1) = 0 from (hob.symm.trans cqz0)) ?_
        refine wp_run 1 (pc' := 37) (ls' := [.ref 74, .int 1, .int x2, .int 0, .int x4, .int x5, am_du]) (st' := [.int (-1000000002)]) rfl ?_
        refine wp_ret rfl ?_
        show am_wp L xs _ _ _ _ 11 [.ref 74, .int 1, .int x2, .int 0, .int x4, .int x5, am_du, am_du, am_du] [.int (-1000000002)] (am_S b) (am_u h 73 2 (h 73 2 + 1)) _
        refine wp_run 2 (pc' := 15) (ls' := [.ref 74, .int 1, .int x2, .int 0, .int x4, .int x5, .int (-1000000002), am_du, am_du]) (st' := [.int (-1000000002)]) rfl ?_
        refine wp_if_f rfl (show ¬ (((-1000000002) : Int32) = 0) from by decide) ?_
        refine wp_run 2 (pc' := 21) (ls' := [.ref 74, .int 1, .int x2, .int 0, .int x4, .int x5, .int (-1000000002), am_du, am_du]) (st' := [.int (-1000000002), .ref 74]) rfl ?_
        refine wp_callV (o := 74) (as := [.int (-1000000002)]) (rest := []) (els := [.ref 74, .int (-1000000002)]) rfl rfl rfl rfl rfl rfl rfl rfl (by omega) ?_
        refine sp_error2 ?_
        show am_wp L xs _ _ _ _ 24 [.ref 74, .int 1, .int x2, .int 0, .int x4, .int x5, .int (-1000000002), am_du, am_du] [.int (-1000000002)] (am_S b) (am_u (am_u h 73 2 (h 73 2 + 1)) 77 2 ((am_u h 73 2 (h 73 2 + 1)) 77 2 + 1)) _
        refine wp_ret rfl ?_
        exact kk2 _ _ (re_err2 hR)
    · skip
      intro ex3
      subst ex3
      show am_wp L xs _ _ _ _ 11 [.ref 0, .int 1, .int x2, .int 1, .int x4, .int x5, am_du, am_du] [.int 1] (am_S b) h _
      refine wp_if_t rfl (show ¬ (1 : Int32) = 0 from by decide) ?_
      obtain ⟨l, hl24, ho2, hz2, hob, hbb, hri⟩ := id hS1
      refine wp_run 1 (pc' := 21) (ls' := [.ref 0, .int 1, .int x2, .int 1, .int x4, .int x5, am_du, am_du]) (st' := [.ref 0]) rfl ?_
      refine wp_getr 64 rfl rfl rfl ?_
      refine wp_run 1 (pc' := 25) (ls' := [.ref 0, .int 1, .int x2, .int 1, .int x4, .int x5, am_du, am_du]) (st' := [.int 1, .ref 64]) rfl ?_
      refine wp_aald (r := 67) rfl rfl (Or.inr rfl) rfl (by decide) rfl rfl ?_
      refine wp_run 2 (pc' := 29) (ls' := [.ref 0, .int 1, .int x2, .int 1, .int x4, .int x5, .ref 67, am_du]) (st' := [.ref 0]) rfl ?_
      refine wp_getr 64 rfl rfl rfl ?_
      refine wp_run 1 (pc' := 33) (ls' := [.ref 0, .int 1, .int x2, .int 1, .int x4, .int x5, .ref 67, am_du]) (st' := [.int 1, .ref 64]) rfl ?_
      refine wp_aald (r := 67) rfl rfl (Or.inr rfl) rfl (by decide) rfl rfl ?_
      refine wp_run 2 (pc' := 38) (ls' := [.ref 0, .int 1, .int x2, .int 1, .int x4, .int x5, .ref 67, .ref 67]) (st' := [.ref 67]) rfl ?_
      refine wp_callV (o := 67) (as := []) (rest := []) (els := [.ref 67]) rfl rfl rfl rfl rfl rfl rfl rfl (by omega) ?_
      refine wp_run 1 (pc' := 1) (ls' := [.ref 67]) (st' := [.ref 67]) rfl ?_
      refine wp_geti (a := 1) (h 67 1) rfl rfl rfl rfl ?_
      refine wp_if rfl (fun (cqz0 : ¬ (h 67 1) = 0) => ?_) (fun (cqz0 : ¬ (¬ (h 67 1) = 0)) => ?_)
      · skip
        refine wp_run 1 (pc' := 12) (ls' := [.ref 67]) (st' := [.int 0]) rfl ?_
        refine wp_retz rfl (Or.inl rfl) ?_
        show am_wp L xs _ _ _ _ 41 [.ref 0, .int 1, .int x2, .int 1, .int x4, .int x5, .ref 67, .ref 67] [.int 0] (am_S b) h _
        refine wp_if_f rfl (show ¬ (¬ (0 : Int32) = 0) from by decide) ?_
        refine wp_run 1 (pc' := 46) (ls' := [.ref 0, .int 1, .int x2, .int 1, .int x4, .int x5, .ref 67, .ref 67]) (st' := [.ref 67]) rfl ?_
        refine wp_callV (o := 67) (as := []) (rest := []) (els := [.ref 67]) rfl rfl rfl rfl rfl rfl rfl rfl (by omega) ?_
        refine wp_run 1 (pc' := 1) (ls' := [.ref 67]) (st' := [.ref 67]) rfl ?_
        refine wp_geti (a := 1) (h 67 1) rfl rfl rfl rfl ?_
        refine wp_if_t rfl (show ¬ (h 67 1) = 0 from cqz0) ?_
        refine wp_run 1 (pc' := 12) (ls' := [.ref 67]) (st' := [.int 0]) rfl ?_
        refine wp_retz rfl (Or.inl rfl) ?_
        show am_wp L xs _ _ _ _ 49 [.ref 0, .int 1, .int x2, .int 1, .int x4, .int x5, .ref 67, .ref 67] [.int 0] (am_S b) h _
        refine wp_if_t rfl (show (0 : Int32) = 0 from by decide) ?_
        refine wp_run 1 (pc' := 60) (ls' := [.ref 0, .int 1, .int x2, .int 1, .int x4, .int x5, .ref 67, .ref 67]) (st' := [.ref 67]) rfl ?_
        refine wp_geti (a := 1) (h 67 1) rfl rfl rfl rfl ?_
        refine wp_run 1 (pc' := 65) (ls' := [.ref 0, .int 1, .int x2, .int 1, .int x4, .int x5, .ref 67, .ref 67]) (st' := [.ref 67, .int (h 67 1)]) rfl ?_
        refine wp_geti (a := 1) (h 67 1) rfl rfl rfl rfl ?_
        refine wp_icmp_t rfl (show (h 67 1) = (h 67 1) from rfl) ?_
        refine wp_run 3 (pc' := 82) (ls' := [.ref 0, .int 1, .int x2, .int 1, .int x4, .int x5, .ref 67, .ref 67]) (st' := [.int x5, .int x2, .ref 67]) rfl ?_
        refine wp_callV (o := 67) (as := [.int x2, .int x5]) (rest := []) (els := [.ref 67, .int x2, .int x5]) rfl rfl rfl rfl rfl rfl rfl rfl (by omega) ?_
        refine sp_holds (h := h) (o := 67) (l := l) rfl ho2 hl24 (by omega) ?_ ?_
        · skip
          intro k2 k5 e5 e2 hle1
          subst e5
          subst e2
          show am_wp L xs _ _ _ _ 85 [.ref 0, .int 1, .int (nI k2), .int 1, .int x4, .int (nI k5), .ref 67, .ref 67] [.int 1] (am_S b) h _
          refine wp_if_f rfl (show ¬ ((1 : Int32) = 0) from by decide) ?_
          refine wp_run 3 (pc' := 94) (ls' := [.ref 0, .int 1, .int (nI k2), .int 1, .int x4, .int (nI k5), .ref 67, .ref 67]) (st' := [.int (nI k5), .int x4, .ref 67]) rfl ?_
          refine wp_callV (o := 67) (as := [.int x4, .int (nI k5)]) (rest := []) (els := [.ref 67, .int x4, .int (nI k5)]) rfl rfl rfl rfl rfl rfl rfl rfl (by omega) ?_
          refine sp_holds (h := h) (o := 67) (l := l) rfl ho2 hl24 (by omega) ?_ ?_
          · skip
            intro k4 n4 q1 e4 hle2
            have en := pu_inj (by omega) (by omega) q1
            subst en
            subst e4
            show am_wp L xs _ _ _ _ 97 [.ref 0, .int 1, .int (nI k2), .int 1, .int (nI k4), .int (nI k5), .ref 67, .ref 67] [.int 1] (am_S b) h _
            refine wp_if_t rfl (show ¬ (1 : Int32) = 0 from by decide) ?_
            refine wp_run 1 (pc' := 108) (ls' := [.ref 0, .int 1, .int (nI k2), .int 1, .int (nI k4), .int (nI k5), .ref 67, .ref 67]) (st' := [.ref 67]) rfl ?_
            refine wp_getr 68 rfl rfl rfl ?_
            refine wp_run 2 (pc' := 114) (ls' := [.ref 0, .int 1, .int (nI k2), .int 1, .int (nI k4), .int (nI k5), .ref 67, .ref 67]) (st' := [.ref 67, .int (nI k2), .ref 68]) rfl ?_
            refine wp_getr 68 rfl rfl rfl ?_
            refine wp_run 2 (pc' := 121) (ls' := [.ref 0, .int 1, .int (nI k2), .int 1, .int (nI k4), .int (nI k5), .ref 67, .ref 67]) (st' := [.int (nI k5), .int (nI k4), .ref 68, .int (nI k2), .ref 68]) rfl ?_
            refine wp_copy (q := 68) (o := 68) (sp := k2) (dp := k4) (n := k5) rfl rfl rfl rfl rfl rfl (by omega) (by omega) (by omega) (by omega) rfl (by omega) ?_
            refine wp_run 1 (pc' := 126) (ls' := [.ref 0, .int 1, .int (nI k2), .int 1, .int (nI k4), .int (nI k5), .ref 67, .ref 67]) (st' := [.int (nI k5)]) rfl ?_
            refine wp_ret rfl ?_
            refine kk _ _ _ (fun ms2 Q2 kk2 => ?_)
            refine wp_run 6 (pc' := 8) (ls' := [.ref 74, .int 1, .int (nI k2), .int 1, .int (nI k4), .int (nI k5), am_du, am_du, am_du]) (st' := [.int (nI k5), .int (nI k4), .int 1, .int (nI k2), .int 1, .ref 74]) rfl ?_
            refine wp_callV (o := 74) (as := [.int 1, .int (nI k2), .int 1, .int (nI k4), .int (nI k5)]) (rest := []) (els := [.ref 74, .int 1, .int (nI k2), .int 1, .int (nI k4), .int (nI k5), am_du]) rfl rfl rfl rfl rfl rfl rfl rfl (by omega) ?_
            refine wp_run 1 (pc' := 1) (ls' := [.ref 74, .int 1, .int (nI k2), .int 1, .int (nI k4), .int (nI k5), am_du]) (st' := [.int 1]) rfl ?_
            refine wp_callS (as := [.int 1]) (rest := []) (els := [.int 1]) rfl rfl rfl rfl rfl rfl rfl rfl (by omega) ?_
            refine sp_m_isSheet (by omega) (fun _ _ _ => ?_) (fun q => absurd rfl (q 1 (by omega)))
            show am_wp L xs _ _ _ _ 4 [.ref 74, .int 1, .int (nI k2), .int 1, .int (nI k4), .int (nI k5), am_du] [.int 1] (am_S b) (am_ur h 68 (va_cpy (h 68) (h 68) k2 k4 k5)) _
            refine wp_if_f rfl (show ¬ ((1 : Int32) = 0) from by decide) ?_
            refine wp_run 1 (pc' := 8) (ls' := [.ref 74, .int 1, .int (nI k2), .int 1, .int (nI k4), .int (nI k5), am_du]) (st' := [.int 1]) rfl ?_
            refine wp_callS (as := [.int 1]) (rest := []) (els := [.int 1]) rfl rfl rfl rfl rfl rfl rfl rfl (by omega) ?_
            refine sp_m_isSheet (by omega) (fun _ _ _ => ?_) (fun q => absurd rfl (q 1 (by omega)))
            show am_wp L xs _ _ _ _ 11 [.ref 74, .int 1, .int (nI k2), .int 1, .int (nI k4), .int (nI k5), am_du] [.int 1] (am_S b) (am_ur h 68 (va_cpy (h 68) (h 68) k2 k4 k5)) _
            refine wp_if_t rfl (show ¬ (1 : Int32) = 0 from by decide) ?_
            refine wp_run 1 (pc' := 18) (ls' := [.ref 74, .int 1, .int (nI k2), .int 1, .int (nI k4), .int (nI k5), am_du]) (st' := [.ref 74]) rfl ?_
            refine wp_getr 78 rfl rfl rfl ?_
            refine wp_run 1 (pc' := 22) (ls' := [.ref 74, .int 1, .int (nI k2), .int 1, .int (nI k4), .int (nI k5), am_du]) (st' := [.int 1, .ref 78]) rfl ?_
            refine wp_ald (i := 1) (h 78 1) rfl rfl rfl rfl (by decide) rfl ?_
            refine wp_if_f rfl (show ¬ ((h 78 1) = 0) from (fun q => cqz0 (hob.trans q))) ?_
            refine wp_run 1 (pc' := 27) (ls' := [.ref 74, .int 1, .int (nI k2), .int 1, .int (nI k4), .int (nI k5), am_du]) (st' := [.ref 74]) rfl ?_
            refine wp_getr 78 rfl rfl rfl ?_
            refine wp_run 1 (pc' := 31) (ls' := [.ref 74, .int 1, .int (nI k2), .int 1, .int (nI k4), .int (nI k5), am_du]) (st' := [.int 1, .ref 78]) rfl ?_
            refine wp_ald (i := 1) (h 78 1) rfl rfl rfl rfl (by decide) rfl ?_
            refine wp_if_t rfl (show ¬ (h 78 1) = 0 from (fun q => cqz0 (hob.trans q))) ?_
            refine wp_run 1 (pc' := 39) (ls' := [.ref 74, .int 1, .int (nI k2), .int 1, .int (nI k4), .int (nI k5), am_du]) (st' := [.ref 74]) rfl ?_
            refine wp_getr 78 rfl rfl rfl ?_
            refine wp_run 1 (pc' := 43) (ls' := [.ref 74, .int 1, .int (nI k2), .int 1, .int (nI k4), .int (nI k5), am_du]) (st' := [.int 1, .ref 78]) rfl ?_
            refine wp_ald (i := 1) (h 78 1) rfl rfl rfl rfl (by decide) rfl ?_
            refine wp_run 1 (pc' := 45) (ls' := [.ref 74, .int 1, .int (nI k2), .int 1, .int (nI k4), .int (nI k5), am_du]) (st' := [.ref 74, .int (h 78 1)]) rfl ?_
            refine wp_getr 78 rfl rfl rfl ?_
            refine wp_run 1 (pc' := 49) (ls' := [.ref 74, .int 1, .int (nI k2), .int 1, .int (nI k4), .int (nI k5), am_du]) (st' := [.int 1, .ref 78, .int (h 78 1)]) rfl ?_
            refine wp_ald (i := 1) (h 78 1) rfl rfl rfl rfl (by decide) rfl ?_
            refine wp_icmp_t rfl (show (h 78 1) = (h 78 1) from rfl) ?_
            refine wp_run 1 (pc' := 58) (ls' := [.ref 74, .int 1, .int (nI k2), .int 1, .int (nI k4), .int (nI k5), am_du]) (st' := [.int (nI k5)]) rfl ?_
            refine wp_if_f rfl (show ¬ ((nI k5) < 0) from mt (nI_ltI (a := k5) (b := 0) (by omega) (by omega)).mp (by omega)) ?_
            refine wp_run 1 (pc' := 62) (ls' := [.ref 74, .int 1, .int (nI k2), .int 1, .int (nI k4), .int (nI k5), am_du]) (st' := [.int (nI k2)]) rfl ?_
            refine wp_if_f rfl (show ¬ ((nI k2) < 0) from mt (nI_ltI (a := k2) (b := 0) (by omega) (by omega)).mp (by omega)) ?_
            refine wp_run 1 (pc' := 67) (ls' := [.ref 74, .int 1, .int (nI k2), .int 1, .int (nI k4), .int (nI k5), am_du]) (st' := [.int (nI k4)]) rfl ?_
            refine wp_if_f rfl (show ¬ ((nI k4) < 0) from mt (nI_ltI (a := k4) (b := 0) (by omega) (by omega)).mp (by omega)) ?_
            refine wp_run 2 (pc' := 73) (ls' := [.ref 74, .int 1, .int (nI k2), .int 1, .int (nI k4), .int (nI k5), am_du]) (st' := [.ref 74, .int (nI k5)]) rfl ?_
            refine wp_getr 79 rfl rfl rfl ?_
            refine wp_run 1 (pc' := 77) (ls' := [.ref 74, .int 1, .int (nI k2), .int 1, .int (nI k4), .int (nI k5), am_du]) (st' := [.int 1, .ref 79, .int (nI k5)]) rfl ?_
            refine wp_ald (i := 1) (nI l) hz2 rfl rfl rfl (by decide) rfl ?_
            refine wp_run 2 (pc' := 80) (ls' := [.ref 74, .int 1, .int (nI k2), .int 1, .int (nI k4), .int (nI k5), am_du]) (st' := [.int ((nI l) - (nI k2)), .int (nI k5)]) rfl ?_
            refine wp_icmp_f rfl (show ¬ (((nI l) - (nI k2)) < (nI k5)) from Int32.not_lt.mpr ((pu_suble (by omega) (by omega) hl24).mpr (by omega))) ?_
            refine wp_run 2 (pc' := 86) (ls' := [.ref 74, .int 1, .int (nI k2), .int 1, .int (nI k4), .int (nI k5), am_du]) (st' := [.ref 74, .int (nI k5)]) rfl ?_
            refine wp_getr 79 rfl rfl rfl ?_
            refine wp_run 1 (pc' := 90) (ls' := [.ref 74, .int 1, .int (nI k2), .int 1, .int (nI k4), .int (nI k5), am_du]) (st' := [.int 1, .ref 79, .int (nI k5)]) rfl ?_
            refine wp_ald (i := 1) (nI l) hz2 rfl rfl rfl (by decide) rfl ?_
            refine wp_run 2 (pc' := 94) (ls' := [.ref 74, .int 1, .int (nI k2), .int 1, .int (nI k4), .int (nI k5), am_du]) (st' := [.int ((nI l) - (nI k4)), .int (nI k5)]) rfl ?_
            refine wp_icmp_f rfl (show ¬ (((nI l) - (nI k4)) < (nI k5)) from Int32.not_lt.mpr ((pu_suble (by omega) (by omega) hl24).mpr (by omega))) ?_
            refine wp_run 4 (pc' := 106) (ls' := [.ref 74, .int 1, .int (nI k2), .int 1, .int (nI k4), .int (nI k5), .int 1]) (st' := [.int 1]) rfl ?_
            refine wp_if_f rfl (show ¬ ((1 : Int32) = 0) from by decide) ?_
            refine wp_run 2 (pc' := 115) (ls' := [.ref 74, .int 1, .int (nI k2), .int 1, .int (nI k4), .int (nI k5), .int 1]) (st' := [.int 0]) rfl ?_
            refine wp_ret rfl ?_
            show am_wp L xs _ _ _ _ 11 [.ref 74, .int 1, .int (nI k2), .int 1, .int (nI k4), .int (nI k5), am_du, am_du, am_du] [.int 0] (am_S b) (am_ur h 68 (va_cpy (h 68) (h 68) k2 k4 k5)) _
            refine wp_run 2 (pc' := 15) (ls' := [.ref 74, .int 1, .int (nI k2), .int 1, .int (nI k4), .int (nI k5), .int 0, am_du, am_du]) (st' := [.int 0]) rfl ?_
            refine wp_if_t rfl (show (0 : Int32) = 0 from by decide) ?_
            refine wp_run 2 (pc' := 28) (ls' := [.ref 74, .int 1, .int (nI k2), .int 1, .int (nI k4), .int (nI k5), .int 0, .int 0, am_du]) (st' := []) rfl ?_
            by_cases hij : k2 < k4
            · have hp := lp_mvd (L := L) (xs := xs) (d := d) (ms := ms2) (b := b) (h := (am_ur h 68 (va_cpy (h 68) (h 68) k2 k4 k5))) (Q := Q2) (s := 1) (o := 1) (i := k2) (j := k4) (n := k5) (by omega) (by omega) (by omega) (by omega) hij (by omega) ?_ k5 0 am_du (by omega)
              · rw [mv_d0] at hp; exact hp
              · exact kk2 _ _ ⟨⟨n, c, t, tp, wt, s0, s1, p0, p1, H⟩, re_im_s hI, hE, (re_sh_mo hS0 (by decide) (by omega)), (re_sh_m hS1 hS1 (by omega) (by omega)), (re_sh_mo hS2 (by decide) (by omega)), (re_sh_mo hS3 (by decide) (by omega)), hT⟩
            · have hp := lp_mva (L := L) (xs := xs) (d := d) (ms := ms2) (b := b) (h := (am_ur h 68 (va_cpy (h 68) (h 68) k2 k4 k5))) (Q := Q2) (s := 1) (o := 1) (i := k2) (j := k4) (n := k5) (by omega) (by omega) (by omega) (by omega) hij (by omega) ?_ k5 0 am_du (by omega)
              · rw [mv_a0] at hp; exact hp
              · exact kk2 _ _ ⟨⟨n, c, t, tp, wt, s0, s1, p0, p1, H⟩, re_im_s hI, hE, (re_sh_mo hS0 (by decide) (by omega)), (re_sh_m hS1 hS1 (by omega) (by omega)), (re_sh_mo hS2 (by decide) (by omega)), (re_sh_mo hS3 (by decide) (by omega)), hT⟩
          · skip
            intro hno2
            show am_wp L xs _ _ _ _ 97 [.ref 0, .int 1, .int (nI k2), .int 1, .int x4, .int (nI k5), .ref 67, .ref 67] [.int 0] (am_S b) h _
            refine wp_if_f rfl (show ¬ (¬ (0 : Int32) = 0) from by decide) ?_
            refine wp_run 2 (pc' := 102) (ls' := [.ref 0, .int 1, .int (nI k2), .int 1, .int x4, .int (nI k5), .ref 67, .ref 67]) (st' := [.int 1, .ref 0]) rfl ?_
            refine wp_callV (o := 0) (as := [.int 1]) (rest := []) (els := [.ref 0, .int 1]) rfl rfl rfl rfl rfl rfl rfl rfl (by omega) ?_
            refine sp_refuse1 (by omega) ?_
            show am_wp L xs _ _ _ _ 105 [.ref 0, .int 1, .int (nI k2), .int 1, .int x4, .int (nI k5), .ref 67, .ref 67] [.int (-1000000001)] (am_S b) (am_u h 73 1 (h 73 1 + 1)) _
            refine wp_ret rfl ?_
            refine kk _ _ _ (fun ms2 Q2 kk2 => ?_)
            refine wp_run 6 (pc' := 8) (ls' := [.ref 74, .int 1, .int (nI k2), .int 1, .int x4, .int (nI k5), am_du, am_du, am_du]) (st' := [.int (nI k5), .int x4, .int 1, .int (nI k2), .int 1, .ref 74]) rfl ?_
            refine wp_callV (o := 74) (as := [.int 1, .int (nI k2), .int 1, .int x4, .int (nI k5)]) (rest := []) (els := [.ref 74, .int 1, .int (nI k2), .int 1, .int x4, .int (nI k5), am_du]) rfl rfl rfl rfl rfl rfl rfl rfl (by omega) ?_
            refine wp_run 1 (pc' := 1) (ls' := [.ref 74, .int 1, .int (nI k2), .int 1, .int x4, .int (nI k5), am_du]) (st' := [.int 1]) rfl ?_
            refine wp_callS (as := [.int 1]) (rest := []) (els := [.int 1]) rfl rfl rfl rfl rfl rfl rfl rfl (by omega) ?_
            refine sp_m_isSheet (by omega) (fun _ _ _ => ?_) (fun q => absurd rfl (q 1 (by omega)))
            show am_wp L xs _ _ _ _ 4 [.ref 74, .int 1, .int (nI k2), .int 1, .int x4, .int (nI k5), am_du] [.int 1] (am_S b) (am_u h 73 1 (h 73 1 + 1)) _
            refine wp_if_f rfl (show ¬ ((1 : Int32) = 0) from by decide) ?_
            refine wp_run 1 (pc' := 8) (ls' := [.ref 74, .int 1, .int (nI k2), .int 1, .int x4, .int (nI k5), am_du]) (st' := [.int 1]) rfl ?_
            refine wp_callS (as := [.int 1]) (rest := []) (els := [.int 1]) rfl rfl rfl rfl rfl rfl rfl rfl (by omega) ?_
            refine sp_m_isSheet (by omega) (fun _ _ _ => ?_) (fun q => absurd rfl (q 1 (by omega)))
            show am_wp L xs _ _ _ _ 11 [.ref 74, .int 1, .int (nI k2), .int 1, .int x4, .int (nI k5), am_du] [.int 1] (am_S b) (am_u h 73 1 (h 73 1 + 1)) _
            refine wp_if_t rfl (show ¬ (1 : Int32) = 0 from by decide) ?_
            refine wp_run 1 (pc' := 18) (ls' := [.ref 74, .int 1, .int (nI k2), .int 1, .int x4, .int (nI k5), am_du]) (st' := [.ref 74]) rfl ?_
            refine wp_getr 78 rfl rfl rfl ?_
            refine wp_run 1 (pc' := 22) (ls' := [.ref 74, .int 1, .int (nI k2), .int 1, .int x4, .int (nI k5), am_du]) (st' := [.int 1, .ref 78]) rfl ?_
            refine wp_ald (i := 1) (h 78 1) rfl rfl rfl rfl (by decide) rfl ?_
            refine wp_if_f rfl (show ¬ ((h 78 1) = 0) from (fun q => cqz0 (hob.trans q))) ?_
            refine wp_run 1 (pc' := 27) (ls' := [.ref 74, .int 1, .int (nI k2), .int 1, .int x4, .int (nI k5), am_du]) (st' := [.ref 74]) rfl ?_
            refine wp_getr 78 rfl rfl rfl ?_
            refine wp_run 1 (pc' := 31) (ls' := [.ref 74, .int 1, .int (nI k2), .int 1, .int x4, .int (nI k5), am_du]) (st' := [.int 1, .ref 78]) rfl ?_
            refine wp_ald (i := 1) (h 78 1) rfl rfl rfl rfl (by decide) rfl ?_
            refine wp_if_t rfl (show ¬ (h 78 1) = 0 from (fun q => cqz0 (hob.trans q))) ?_
            refine wp_run 1 (pc' := 39) (ls' := [.ref 74, .int 1, .int (nI k2), .int 1, .int x4, .int (nI k5), am_du]) (st' := [.ref 74]) rfl ?_
            refine wp_getr 78 rfl rfl rfl ?_
            refine wp_run 1 (pc' := 43) (ls' := [.ref 74, .int 1, .int (nI k2), .int 1, .int x4, .int (nI k5), am_du]) (st' := [.int 1, .ref 78]) rfl ?_
            refine wp_ald (i := 1) (h 78 1) rfl rfl rfl rfl (by decide) rfl ?_
            refine wp_run 1 (pc' := 45) (ls' := [.ref 74, .int 1, .int (nI k2), .int 1, .int x4, .int (nI k5), am_du]) (st' := [.ref 74, .int (h 78 1)]) rfl ?_
            refine wp_getr 78 rfl rfl rfl ?_
            refine wp_run 1 (pc' := 49) (ls' := [.ref 74, .int 1, .int (nI k2), .int 1, .int x4, .int (nI k5), am_du]) (st' := [.int 1, .ref 78, .int (h 78 1)]) rfl ?_
            refine wp_ald (i := 1) (h 78 1) rfl rfl rfl rfl (by decide) rfl ?_
            refine wp_icmp_t rfl (show (h 78 1) = (h 78 1) from rfl) ?_
            refine wp_run 1 (pc' := 58) (ls' := [.ref 74, .int 1, .int (nI k2), .int 1, .int x4, .int (nI k5), am_du]) (st' := [.int (nI k5)]) rfl ?_
            refine wp_if_f rfl (show ¬ ((nI k5) < 0) from mt (nI_ltI (a := k5) (b := 0) (by omega) (by omega)).mp (by omega)) ?_
            refine wp_run 1 (pc' := 62) (ls' := [.ref 74, .int 1, .int (nI k2), .int 1, .int x4, .int (nI k5), am_du]) (st' := [.int (nI k2)]) rfl ?_
            refine wp_if_f rfl (show ¬ ((nI k2) < 0) from mt (nI_ltI (a := k2) (b := 0) (by omega) (by omega)).mp (by omega)) ?_
            refine wp_run 1 (pc' := 67) (ls' := [.ref 74, .int 1, .int (nI k2), .int 1, .int x4, .int (nI k5), am_du]) (st' := [.int x4]) rfl ?_
            refine wp_if rfl (fun (cq67 : x4 < 0) => ?_) (fun (cq67 : ¬ (x4 < 0)) => ?_)
            · skip
              refine wp_run 3 (pc' := 106) (ls' := [.ref 74, .int 1, .int (nI k2), .int 1, .int x4, .int (nI k5), .int 0]) (st' := [.int 0]) rfl ?_
              refine wp_if_t rfl (show (0 : Int32) = 0 from by decide) ?_
              refine wp_run 1 (pc' := 115) (ls' := [.ref 74, .int 1, .int (nI k2), .int 1, .int x4, .int (nI k5), .int 0]) (st' := [.int (-1000000001)]) rfl ?_
              refine wp_ret rfl ?_
              show am_wp L xs _ _ _ _ 11 [.ref 74, .int 1, .int (nI k2), .int 1, .int x4, .int (nI k5), am_du, am_du, am_du] [.int (-1000000001)] (am_S b) (am_u h 73 1 (h 73 1 + 1)) _
              refine wp_run 2 (pc' := 15) (ls' := [.ref 74, .int 1, .int (nI k2), .int 1, .int x4, .int (nI k5), .int (-1000000001), am_du, am_du]) (st' := [.int (-1000000001)]) rfl ?_
              refine wp_if_f rfl (show ¬ (((-1000000001) : Int32) = 0) from by decide) ?_
              refine wp_run 2 (pc' := 21) (ls' := [.ref 74, .int 1, .int (nI k2), .int 1, .int x4, .int (nI k5), .int (-1000000001), am_du, am_du]) (st' := [.int (-1000000001), .ref 74]) rfl ?_
              refine wp_callV (o := 74) (as := [.int (-1000000001)]) (rest := []) (els := [.ref 74, .int (-1000000001)]) rfl rfl rfl rfl rfl rfl rfl rfl (by omega) ?_
              refine sp_error1 ?_
              show am_wp L xs _ _ _ _ 24 [.ref 74, .int 1, .int (nI k2), .int 1, .int x4, .int (nI k5), .int (-1000000001), am_du, am_du] [.int (-1000000001)] (am_S b) (am_u (am_u h 73 1 (h 73 1 + 1)) 77 1 ((am_u h 73 1 (h 73 1 + 1)) 77 1 + 1)) _
              refine wp_ret rfl ?_
              exact kk2 _ _ (re_err1 hR)
            · skip
              obtain ⟨k4, hk4, ek4⟩ := pu_nonneg (Int32.not_lt.mp cq67)
              subst ek4
              refine wp_run 2 (pc' := 73) (ls' := [.ref 74, .int 1, .int (nI k2), .int 1, .int (nI k4), .int (nI k5), am_du]) (st' := [.ref 74, .int (nI k5)]) rfl ?_
              refine wp_getr 79 rfl rfl rfl ?_
              refine wp_run 1 (pc' := 77) (ls' := [.ref 74, .int 1, .int (nI k2), .int 1, .int (nI k4), .int (nI k5), am_du]) (st' := [.int 1, .ref 79, .int (nI k5)]) rfl ?_
              refine wp_ald (i := 1) (nI l) hz2 rfl rfl rfl (by decide) rfl ?_
              refine wp_run 2 (pc' := 80) (ls' := [.ref 74, .int 1, .int (nI k2), .int 1, .int (nI k4), .int (nI k5), am_du]) (st' := [.int ((nI l) - (nI k2)), .int (nI k5)]) rfl ?_
              refine wp_icmp_f rfl (show ¬ (((nI l) - (nI k2)) < (nI k5)) from Int32.not_lt.mpr ((pu_suble (by omega) (by omega) hl24).mpr (by omega))) ?_
              refine wp_run 2 (pc' := 86) (ls' := [.ref 74, .int 1, .int (nI k2), .int 1, .int (nI k4), .int (nI k5), am_du]) (st' := [.ref 74, .int (nI k5)]) rfl ?_
              refine wp_getr 79 rfl rfl rfl ?_
              refine wp_run 1 (pc' := 90) (ls' := [.ref 74, .int 1, .int (nI k2), .int 1, .int (nI k4), .int (nI k5), am_du]) (st' := [.int 1, .ref 79, .int (nI k5)]) rfl ?_
              refine wp_ald (i := 1) (nI l) hz2 rfl rfl rfl (by decide) rfl ?_
              refine wp_run 2 (pc' := 94) (ls' := [.ref 74, .int 1, .int (nI k2), .int 1, .int (nI k4), .int (nI k5), am_du]) (st' := [.int ((nI l) - (nI k4)), .int (nI k5)]) rfl ?_
              refine wp_icmp_t rfl (show ((nI l) - (nI k4)) < (nI k5) from Int32.not_le.mp (fun q => hno2 k4 k5 rfl rfl (by have := (pu_suble (by omega) (by omega) hl24).mp q; omega))) ?_
              refine wp_run 3 (pc' := 106) (ls' := [.ref 74, .int 1, .int (nI k2), .int 1, .int (nI k4), .int (nI k5), .int 0]) (st' := [.int 0]) rfl ?_
              refine wp_if_t rfl (show (0 : Int32) = 0 from by decide) ?_
              refine wp_run 1 (pc' := 115) (ls' := [.ref 74, .int 1, .int (nI k2), .int 1, .int (nI k4), .int (nI k5), .int 0]) (st' := [.int (-1000000001)]) rfl ?_
              refine wp_ret rfl ?_
              show am_wp L xs _ _ _ _ 11 [.ref 74, .int 1, .int (nI k2), .int 1, .int (nI k4), .int (nI k5), am_du, am_du, am_du] [.int (-1000000001)] (am_S b) (am_u h 73 1 (h 73 1 + 1)) _
              refine wp_run 2 (pc' := 15) (ls' := [.ref 74, .int 1, .int (nI k2), .int 1, .int (nI k4), .int (nI k5), .int (-1000000001), am_du, am_du]) (st' := [.int (-1000000001)]) rfl ?_
              refine wp_if_f rfl (show ¬ (((-1000000001) : Int32) = 0) from by decide) ?_
              refine wp_run 2 (pc' := 21) (ls' := [.ref 74, .int 1, .int (nI k2), .int 1, .int (nI k4), .int (nI k5), .int (-1000000001), am_du, am_du]) (st' := [.int (-1000000001), .ref 74]) rfl ?_
              refine wp_callV (o := 74) (as := [.int (-1000000001)]) (rest := []) (els := [.ref 74, .int (-1000000001)]) rfl rfl rfl rfl rfl rfl rfl rfl (by omega) ?_
              refine sp_error1 ?_
              show am_wp L xs _ _ _ _ 24 [.ref 74, .int 1, .int (nI k2), .int 1, .int (nI k4), .int (nI k5), .int (-1000000001), am_du, am_du] [.int (-1000000001)] (am_S b) (am_u (am_u h 73 1 (h 73 1 + 1)) 77 1 ((am_u h 73 1 (h 73 1 + 1)) 77 1 + 1)) _
              refine wp_ret rfl ?_
              exact kk2 _ _ (re_err1 hR)
        · skip
          intro hno1
          show am_wp L xs _ _ _ _ 85 [.ref 0, .int 1, .int x2, .int 1, .int x4, .int x5, .ref 67, .ref 67] [.int 0] (am_S b) h _
          refine wp_if_t rfl (show (0 : Int32) = 0 from by decide) ?_
          refine wp_run 2 (pc' := 102) (ls' := [.ref 0, .int 1, .int x2, .int 1, .int x4, .int x5, .ref 67, .ref 67]) (st' := [.int 1, .ref 0]) rfl ?_
          refine wp_callV (o := 0) (as := [.int 1]) (rest := []) (els := [.ref 0, .int 1]) rfl rfl rfl rfl rfl rfl rfl rfl (by omega) ?_
          refine sp_refuse1 (by omega) ?_
          show am_wp L xs _ _ _ _ 105 [.ref 0, .int 1, .int x2, .int 1, .int x4, .int x5, .ref 67, .ref 67] [.int (-1000000001)] (am_S b) (am_u h 73 1 (h 73 1 + 1)) _
          refine wp_ret rfl ?_
          refine kk _ _ _ (fun ms2 Q2 kk2 => ?_)
          refine wp_run 6 (pc' := 8) (ls' := [.ref 74, .int 1, .int x2, .int 1, .int x4, .int x5, am_du, am_du, am_du]) (st' := [.int x5, .int x4, .int 1, .int x2, .int 1, .ref 74]) rfl ?_
          refine wp_callV (o := 74) (as := [.int 1, .int x2, .int 1, .int x4, .int x5]) (rest := []) (els := [.ref 74, .int 1, .int x2, .int 1, .int x4, .int x5, am_du]) rfl rfl rfl rfl rfl rfl rfl rfl (by omega) ?_
          refine wp_run 1 (pc' := 1) (ls' := [.ref 74, .int 1, .int x2, .int 1, .int x4, .int x5, am_du]) (st' := [.int 1]) rfl ?_
          refine wp_callS (as := [.int 1]) (rest := []) (els := [.int 1]) rfl rfl rfl rfl rfl rfl rfl rfl (by omega) ?_
          refine sp_m_isSheet (by omega) (fun _ _ _ => ?_) (fun q => absurd rfl (q 1 (by omega)))
          show am_wp L xs _ _ _ _ 4 [.ref 74, .int 1, .int x2, .int 1, .int x4, .int x5, am_du] [.int 1] (am_S b) (am_u h 73 1 (h 73 1 + 1)) _
          refine wp_if_f rfl (show ¬ ((1 : Int32) = 0) from by decide) ?_
          refine wp_run 1 (pc' := 8) (ls' := [.ref 74, .int 1, .int x2, .int 1, .int x4, .int x5, am_du]) (st' := [.int 1]) rfl ?_
          refine wp_callS (as := [.int 1]) (rest := []) (els := [.int 1]) rfl rfl rfl rfl rfl rfl rfl rfl (by omega) ?_
          refine sp_m_isSheet (by omega) (fun _ _ _ => ?_) (fun q => absurd rfl (q 1 (by omega)))
          show am_wp L xs _ _ _ _ 11 [.ref 74, .int 1, .int x2, .int 1, .int x4, .int x5, am_du] [.int 1] (am_S b) (am_u h 73 1 (h 73 1 + 1)) _
          refine wp_if_t rfl (show ¬ (1 : Int32) = 0 from by decide) ?_
          refine wp_run 1 (pc' := 18) (ls' := [.ref 74, .int 1, .int x2, .int 1, .int x4, .int x5, am_du]) (st' := [.ref 74]) rfl ?_
          refine wp_getr 78 rfl rfl rfl ?_
          refine wp_run 1 (pc' := 22) (ls' := [.ref 74, .int 1, .int x2, .int 1, .int x4, .int x5, am_du]) (st' := [.int 1, .ref 78]) rfl ?_
          refine wp_ald (i := 1) (h 78 1) rfl rfl rfl rfl (by decide) rfl ?_
          refine wp_if_f rfl (show ¬ ((h 78 1) = 0) from (fun q => cqz0 (hob.trans q))) ?_
          refine wp_run 1 (pc' := 27) (ls' := [.ref 74, .int 1, .int x2, .int 1, .int x4, .int x5, am_du]) (st' := [.ref 74]) rfl ?_
          refine wp_getr 78 rfl rfl rfl ?_
          refine wp_run 1 (pc' := 31) (ls' := [.ref 74, .int 1, .int x2, .int 1, .int x4, .int x5, am_du]) (st' := [.int 1, .ref 78]) rfl ?_
          refine wp_ald (i := 1) (h 78 1) rfl rfl rfl rfl (by decide) rfl ?_
          refine wp_if_t rfl (show ¬ (h 78 1) = 0 from (fun q => cqz0 (hob.trans q))) ?_
          refine wp_run 1 (pc' := 39) (ls' := [.ref 74, .int 1, .int x2, .int 1, .int x4, .int x5, am_du]) (st' := [.ref 74]) rfl ?_
          refine wp_getr 78 rfl rfl rfl ?_
          refine wp_run 1 (pc' := 43) (ls' := [.ref 74, .int 1, .int x2, .int 1, .int x4, .int x5, am_du]) (st' := [.int 1, .ref 78]) rfl ?_
          refine wp_ald (i := 1) (h 78 1) rfl rfl rfl rfl (by decide) rfl ?_
          refine wp_run 1 (pc' := 45) (ls' := [.ref 74, .int 1, .int x2, .int 1, .int x4, .int x5, am_du]) (st' := [.ref 74, .int (h 78 1)]) rfl ?_
          refine wp_getr 78 rfl rfl rfl ?_
          refine wp_run 1 (pc' := 49) (ls' := [.ref 74, .int 1, .int x2, .int 1, .int x4, .int x5, am_du]) (st' := [.int 1, .ref 78, .int (h 78 1)]) rfl ?_
          refine wp_ald (i := 1) (h 78 1) rfl rfl rfl rfl (by decide) rfl ?_
          refine wp_icmp_t rfl (show (h 78 1) = (h 78 1) from rfl) ?_
          refine wp_run 1 (pc' := 58) (ls' := [.ref 74, .int 1, .int x2, .int 1, .int x4, .int x5, am_du]) (st' := [.int x5]) rfl ?_
          refine wp_if rfl (fun (cq58 : x5 < 0) => ?_) (fun (cq58 : ¬ (x5 < 0)) => ?_)
          · skip
            refine wp_run 3 (pc' := 106) (ls' := [.ref 74, .int 1, .int x2, .int 1, .int x4, .int x5, .int 0]) (st' := [.int 0]) rfl ?_
            refine wp_if_t rfl (show (0 : Int32) = 0 from by decide) ?_
            refine wp_run 1 (pc' := 115) (ls' := [.ref 74, .int 1, .int x2, .int 1, .int x4, .int x5, .int 0]) (st' := [.int (-1000000001)]) rfl ?_
            refine wp_ret rfl ?_
            show am_wp L xs _ _ _ _ 11 [.ref 74, .int 1, .int x2, .int 1, .int x4, .int x5, am_du, am_du, am_du] [.int (-1000000001)] (am_S b) (am_u h 73 1 (h 73 1 + 1)) _
            refine wp_run 2 (pc' := 15) (ls' := [.ref 74, .int 1, .int x2, .int 1, .int x4, .int x5, .int (-1000000001), am_du, am_du]) (st' := [.int (-1000000001)]) rfl ?_
            refine wp_if_f rfl (show ¬ (((-1000000001) : Int32) = 0) from by decide) ?_
            refine wp_run 2 (pc' := 21) (ls' := [.ref 74, .int 1, .int x2, .int 1, .int x4, .int x5, .int (-1000000001), am_du, am_du]) (st' := [.int (-1000000001), .ref 74]) rfl ?_
            refine wp_callV (o := 74) (as := [.int (-1000000001)]) (rest := []) (els := [.ref 74, .int (-1000000001)]) rfl rfl rfl rfl rfl rfl rfl rfl (by omega) ?_
            refine sp_error1 ?_
            show am_wp L xs _ _ _ _ 24 [.ref 74, .int 1, .int x2, .int 1, .int x4, .int x5, .int (-1000000001), am_du, am_du] [.int (-1000000001)] (am_S b) (am_u (am_u h 73 1 (h 73 1 + 1)) 77 1 ((am_u h 73 1 (h 73 1 + 1)) 77 1 + 1)) _
            refine wp_ret rfl ?_
            exact kk2 _ _ (re_err1 hR)
          · skip
            obtain ⟨k5, hk5, ek5⟩ := pu_nonneg (Int32.not_lt.mp cq58)
            subst ek5
            refine wp_run 1 (pc' := 62) (ls' := [.ref 74, .int 1, .int x2, .int 1, .int x4, .int (nI k5), am_du]) (st' := [.int x2]) rfl ?_
            refine wp_if rfl (fun (cq62 : x2 < 0) => ?_) (fun (cq62 : ¬ (x2 < 0)) => ?_)
            · skip
              refine wp_run 3 (pc' := 106) (ls' := [.ref 74, .int 1, .int x2, .int 1, .int x4, .int (nI k5), .int 0]) (st' := [.int 0]) rfl ?_
              refine wp_if_t rfl (show (0 : Int32) = 0 from by decide) ?_
              refine wp_run 1 (pc' := 115) (ls' := [.ref 74, .int 1, .int x2, .int 1, .int x4, .int (nI k5), .int 0]) (st' := [.int (-1000000001)]) rfl ?_
              refine wp_ret rfl ?_
              show am_wp L xs _ _ _ _ 11 [.ref 74, .int 1, .int x2, .int 1, .int x4, .int (nI k5), am_du, am_du, am_du] [.int (-1000000001)] (am_S b) (am_u h 73 1 (h 73 1 + 1)) _
              refine wp_run 2 (pc' := 15) (ls' := [.ref 74, .int 1, .int x2, .int 1, .int x4, .int (nI k5), .int (-1000000001), am_du, am_du]) (st' := [.int (-1000000001)]) rfl ?_
              refine wp_if_f rfl (show ¬ (((-1000000001) : Int32) = 0) from by decide) ?_
              refine wp_run 2 (pc' := 21) (ls' := [.ref 74, .int 1, .int x2, .int 1, .int x4, .int (nI k5), .int (-1000000001), am_du, am_du]) (st' := [.int (-1000000001), .ref 74]) rfl ?_
              refine wp_callV (o := 74) (as := [.int (-1000000001)]) (rest := []) (els := [.ref 74, .int (-1000000001)]) rfl rfl rfl rfl rfl rfl rfl rfl (by omega) ?_
              refine sp_error1 ?_
              show am_wp L xs _ _ _ _ 24 [.ref 74, .int 1, .int x2, .int 1, .int x4, .int (nI k5), .int (-1000000001), am_du, am_du] [.int (-1000000001)] (am_S b) (am_u (am_u h 73 1 (h 73 1 + 1)) 77 1 ((am_u h 73 1 (h 73 1 + 1)) 77 1 + 1)) _
              refine wp_ret rfl ?_
              exact kk2 _ _ (re_err1 hR)
            · skip
              obtain ⟨k2, hk2, ek2⟩ := pu_nonneg (Int32.not_lt.mp cq62)
              subst ek2
              refine wp_run 1 (pc' := 67) (ls' := [.ref 74, .int 1, .int (nI k2), .int 1, .int x4, .int (nI k5), am_du]) (st' := [.int x4]) rfl ?_
              refine wp_if rfl (fun (cq67 : x4 < 0) => ?_) (fun (cq67 : ¬ (x4 < 0)) => ?_)
              · skip
                refine wp_run 3 (pc' := 106) (ls' := [.ref 74, .int 1, .int (nI k2), .int 1, .int x4, .int (nI k5), .int 0]) (st' := [.int 0]) rfl ?_
                refine wp_if_t rfl (show (0 : Int32) = 0 from by decide) ?_
                refine wp_run 1 (pc' := 115) (ls' := [.ref 74, .int 1, .int (nI k2), .int 1, .int x4, .int (nI k5), .int 0]) (st' := [.int (-1000000001)]) rfl ?_
                refine wp_ret rfl ?_
                show am_wp L xs _ _ _ _ 11 [.ref 74, .int 1, .int (nI k2), .int 1, .int x4, .int (nI k5), am_du, am_du, am_du] [.int (-1000000001)] (am_S b) (am_u h 73 1 (h 73 1 + 1)) _
                refine wp_run 2 (pc' := 15) (ls' := [.ref 74, .int 1, .int (nI k2), .int 1, .int x4, .int (nI k5), .int (-1000000001), am_du, am_du]) (st' := [.int (-1000000001)]) rfl ?_
                refine wp_if_f rfl (show ¬ (((-1000000001) : Int32) = 0) from by decide) ?_
                refine wp_run 2 (pc' := 21) (ls' := [.ref 74, .int 1, .int (nI k2), .int 1, .int x4, .int (nI k5), .int (-1000000001), am_du, am_du]) (st' := [.int (-1000000001), .ref 74]) rfl ?_
                refine wp_callV (o := 74) (as := [.int (-1000000001)]) (rest := []) (els := [.ref 74, .int (-1000000001)]) rfl rfl rfl rfl rfl rfl rfl rfl (by omega) ?_
                refine sp_error1 ?_
                show am_wp L xs _ _ _ _ 24 [.ref 74, .int 1, .int (nI k2), .int 1, .int x4, .int (nI k5), .int (-1000000001), am_du, am_du] [.int (-1000000001)] (am_S b) (am_u (am_u h 73 1 (h 73 1 + 1)) 77 1 ((am_u h 73 1 (h 73 1 + 1)) 77 1 + 1)) _
                refine wp_ret rfl ?_
                exact kk2 _ _ (re_err1 hR)
              · skip
                obtain ⟨k4, hk4, ek4⟩ := pu_nonneg (Int32.not_lt.mp cq67)
                subst ek4
                refine wp_run 2 (pc' := 73) (ls' := [.ref 74, .int 1, .int (nI k2), .int 1, .int (nI k4), .int (nI k5), am_du]) (st' := [.ref 74, .int (nI k5)]) rfl ?_
                refine wp_getr 79 rfl rfl rfl ?_
                refine wp_run 1 (pc' := 77) (ls' := [.ref 74, .int 1, .int (nI k2), .int 1, .int (nI k4), .int (nI k5), am_du]) (st' := [.int 1, .ref 79, .int (nI k5)]) rfl ?_
                refine wp_ald (i := 1) (nI l) hz2 rfl rfl rfl (by decide) rfl ?_
                refine wp_run 2 (pc' := 80) (ls' := [.ref 74, .int 1, .int (nI k2), .int 1, .int (nI k4), .int (nI k5), am_du]) (st' := [.int ((nI l) - (nI k2)), .int (nI k5)]) rfl ?_
                refine wp_icmp_t rfl (show ((nI l) - (nI k2)) < (nI k5) from Int32.not_le.mp (fun q => hno1 k2 k5 rfl rfl (by have := (pu_suble (by omega) (by omega) hl24).mp q; omega))) ?_
                refine wp_run 3 (pc' := 106) (ls' := [.ref 74, .int 1, .int (nI k2), .int 1, .int (nI k4), .int (nI k5), .int 0]) (st' := [.int 0]) rfl ?_
                refine wp_if_t rfl (show (0 : Int32) = 0 from by decide) ?_
                refine wp_run 1 (pc' := 115) (ls' := [.ref 74, .int 1, .int (nI k2), .int 1, .int (nI k4), .int (nI k5), .int 0]) (st' := [.int (-1000000001)]) rfl ?_
                refine wp_ret rfl ?_
                show am_wp L xs _ _ _ _ 11 [.ref 74, .int 1, .int (nI k2), .int 1, .int (nI k4), .int (nI k5), am_du, am_du, am_du] [.int (-1000000001)] (am_S b) (am_u h 73 1 (h 73 1 + 1)) _
                refine wp_run 2 (pc' := 15) (ls' := [.ref 74, .int 1, .int (nI k2), .int 1, .int (nI k4), .int (nI k5), .int (-1000000001), am_du, am_du]) (st' := [.int (-1000000001)]) rfl ?_
                refine wp_if_f rfl (show ¬ (((-1000000001) : Int32) = 0) from by decide) ?_
                refine wp_run 2 (pc' := 21) (ls' := [.ref 74, .int 1, .int (nI k2), .int 1, .int (nI k4), .int (nI k5), .int (-1000000001), am_du, am_du]) (st' := [.int (-1000000001), .ref 74]) rfl ?_
                refine wp_callV (o := 74) (as := [.int (-1000000001)]) (rest := []) (els := [.ref 74, .int (-1000000001)]) rfl rfl rfl rfl rfl rfl rfl rfl (by omega) ?_
                refine sp_error1 ?_
                show am_wp L xs _ _ _ _ 24 [.ref 74, .int 1, .int (nI k2), .int 1, .int (nI k4), .int (nI k5), .int (-1000000001), am_du, am_du] [.int (-1000000001)] (am_S b) (am_u (am_u h 73 1 (h 73 1 + 1)) 77 1 ((am_u h 73 1 (h 73 1 + 1)) 77 1 + 1)) _
                refine wp_ret rfl ?_
                exact kk2 _ _ (re_err1 hR)
      · skip
        replace cqz0 := Decidable.not_not.mp cqz0
        refine wp_run 2 (pc' := 12) (ls' := [.ref 67]) (st' := [.int 1]) rfl ?_
        refine wp_retz rfl (Or.inr rfl) ?_
        show am_wp L xs _ _ _ _ 41 [.ref 0, .int 1, .int x2, .int 1, .int x4, .int x5, .ref 67, .ref 67] [.int 1] (am_S b) h _
        refine wp_if_t rfl (show ¬ (1 : Int32) = 0 from by decide) ?_
        refine wp_run 2 (pc' := 54) (ls' := [.ref 0, .int 1, .int x2, .int 1, .int x4, .int x5, .ref 67, .ref 67]) (st' := [.int 2, .ref 0]) rfl ?_
        refine wp_callV (o := 0) (as := [.int 2]) (rest := []) (els := [.ref 0, .int 2]) rfl rfl rfl rfl rfl rfl rfl rfl (by omega) ?_
        refine sp_refuse2 (by omega) ?_
        show am_wp L xs _ _ _ _ 57 [.ref 0, .int 1, .int x2, .int 1, .int x4, .int x5, .ref 67, .ref 67] [.int (-1000000002)] (am_S b) (am_u h 73 2 (h 73 2 + 1)) _
        refine wp_ret rfl ?_
        refine kk _ _ _ (fun ms2 Q2 kk2 => ?_)
        refine wp_run 6 (pc' := 8) (ls' := [.ref 74, .int 1, .int x2, .int 1, .int x4, .int x5, am_du, am_du, am_du]) (st' := [.int x5, .int x4, .int 1, .int x2, .int 1, .ref 74]) rfl ?_
        refine wp_callV (o := 74) (as := [.int 1, .int x2, .int 1, .int x4, .int x5]) (rest := []) (els := [.ref 74, .int 1, .int x2, .int 1, .int x4, .int x5, am_du]) rfl rfl rfl rfl rfl rfl rfl rfl (by omega) ?_
        refine wp_run 1 (pc' := 1) (ls' := [.ref 74, .int 1, .int x2, .int 1, .int x4, .int x5, am_du]) (st' := [.int 1]) rfl ?_
        refine wp_callS (as := [.int 1]) (rest := []) (els := [.int 1]) rfl rfl rfl rfl rfl rfl rfl rfl (by omega) ?_
        refine sp_m_isSheet (by omega) (fun _ _ _ => ?_) (fun q => absurd rfl (q 1 (by omega)))
        show am_wp L xs _ _ _ _ 4 [.ref 74, .int 1, .int x2, .int 1, .int x4, .int x5, am_du] [.int 1] (am_S b) (am_u h 73 2 (h 73 2 + 1)) _
        refine wp_if_f rfl (show ¬ ((1 : Int32) = 0) from by decide) ?_
        refine wp_run 1 (pc' := 8) (ls' := [.ref 74, .int 1, .int x2, .int 1, .int x4, .int x5, am_du]) (st' := [.int 1]) rfl ?_
        refine wp_callS (as := [.int 1]) (rest := []) (els := [.int 1]) rfl rfl rfl rfl rfl rfl rfl rfl (by omega) ?_
        refine sp_m_isSheet (by omega) (fun _ _ _ => ?_) (fun q => absurd rfl (q 1 (by omega)))
        show am_wp L xs _ _ _ _ 11 [.ref 74, .int 1, .int x2, .int 1, .int x4, .int x5, am_du] [.int 1] (am_S b) (am_u h 73 2 (h 73 2 + 1)) _
        refine wp_if_t rfl (show ¬ (1 : Int32) = 0 from by decide) ?_
        refine wp_run 1 (pc' := 18) (ls' := [.ref 74, .int 1, .int x2, .int 1, .int x4, .int x5, am_du]) (st' := [.ref 74]) rfl ?_
        refine wp_getr 78 rfl rfl rfl ?_
        refine wp_run 1 (pc' := 22) (ls' := [.ref 74, .int 1, .int x2, .int 1, .int x4, .int x5, am_du]) (st' := [.int 1, .ref 78]) rfl ?_
        refine wp_ald (i := 1) (h 78 1) rfl rfl rfl rfl (by decide) rfl ?_
        refine wp_if_t rfl (show (h 78 1) = 0 from (hob.symm.trans cqz0)) ?_
        refine wp_run 1 (pc' := 37) (ls' := [.ref 74, .int 1, .int x2, .int 1, .int x4, .int x5, am_du]) (st' := [.int (-1000000002)]) rfl ?_
        refine wp_ret rfl ?_
        show am_wp L xs _ _ _ _ 11 [.ref 74, .int 1, .int x2, .int 1, .int x4, .int x5, am_du, am_du, am_du] [.int (-1000000002)] (am_S b) (am_u h 73 2 (h 73 2 + 1)) _
        refine wp_run 2 (pc' := 15) (ls' := [.ref 74, .int 1, .int x2, .int 1, .int x4, .int x5, .int (-1000000002), am_du, am_du]) (st' := [.int (-1000000002)]) rfl ?_
        refine wp_if_f rfl (show ¬ (((-1000000002) : Int32) = 0) from by decide) ?_
        refine wp_run 2 (pc' := 21) (ls' := [.ref 74, .int 1, .int x2, .int 1, .int x4, .int x5, .int (-1000000002), am_du, am_du]) (st' := [.int (-1000000002), .ref 74]) rfl ?_
        refine wp_callV (o := 74) (as := [.int (-1000000002)]) (rest := []) (els := [.ref 74, .int (-1000000002)]) rfl rfl rfl rfl rfl rfl rfl rfl (by omega) ?_
        refine sp_error2 ?_
        show am_wp L xs _ _ _ _ 24 [.ref 74, .int 1, .int x2, .int 1, .int x4, .int x5, .int (-1000000002), am_du, am_du] [.int (-1000000002)] (am_S b) (am_u (am_u h 73 2 (h 73 2 + 1)) 77 2 ((am_u h 73 2 (h 73 2 + 1)) 77 2 + 1)) _
        refine wp_ret rfl ?_
        exact kk2 _ _ (re_err2 hR)
    · skip
      intro ex3
      subst ex3
      show am_wp L xs _ _ _ _ 11 [.ref 0, .int 1, .int x2, .int 2, .int x4, .int x5, am_du, am_du] [.int 1] (am_S b) h _
      refine wp_if_t rfl (show ¬ (1 : Int32) = 0 from by decide) ?_
      obtain ⟨l, hl24, ho2, hz2, hob, hbb, hri⟩ := id hS1
      obtain ⟨lB, hl24B, ho2B, hz2B, hobB, hbbB, hriB⟩ := id hS2
      refine wp_run 1 (pc' := 21) (ls' := [.ref 0, .int 1, .int x2, .int 2, .int x4, .int x5, am_du, am_du]) (st' := [.ref 0]) rfl ?_
      refine wp_getr 64 rfl rfl rfl ?_
      refine wp_run 1 (pc' := 25) (ls' := [.ref 0, .int 1, .int x2, .int 2, .int x4, .int x5, am_du, am_du]) (st' := [.int 1, .ref 64]) rfl ?_
      refine wp_aald (r := 67) rfl rfl (Or.inr rfl) rfl (by decide) rfl rfl ?_
      refine wp_run 2 (pc' := 29) (ls' := [.ref 0, .int 1, .int x2, .int 2, .int x4, .int x5, .ref 67, am_du]) (st' := [.ref 0]) rfl ?_
      refine wp_getr 64 rfl rfl rfl ?_
      refine wp_run 1 (pc' := 33) (ls' := [.ref 0, .int 1, .int x2, .int 2, .int x4, .int x5, .ref 67, am_du]) (st' := [.int 2, .ref 64]) rfl ?_
      refine wp_aald (r := 69) rfl rfl (Or.inr rfl) rfl (by decide) rfl rfl ?_
      refine wp_run 2 (pc' := 38) (ls' := [.ref 0, .int 1, .int x2, .int 2, .int x4, .int x5, .ref 67, .ref 69]) (st' := [.ref 67]) rfl ?_
      refine wp_callV (o := 67) (as := []) (rest := []) (els := [.ref 67]) rfl rfl rfl rfl rfl rfl rfl rfl (by omega) ?_
      refine wp_run 1 (pc' := 1) (ls' := [.ref 67]) (st' := [.ref 67]) rfl ?_
      refine wp_geti (a := 1) (h 67 1) rfl rfl rfl rfl ?_
      refine wp_if rfl (fun (cqz0 : ¬ (h 67 1) = 0) => ?_) (fun (cqz0 : ¬ (¬ (h 67 1) = 0)) => ?_)
      · skip
        refine wp_run 1 (pc' := 12) (ls' := [.ref 67]) (st' := [.int 0]) rfl ?_
        refine wp_retz rfl (Or.inl rfl) ?_
        show am_wp L xs _ _ _ _ 41 [.ref 0, .int 1, .int x2, .int 2, .int x4, .int x5, .ref 67, .ref 69] [.int 0] (am_S b) h _
        refine wp_if_f rfl (show ¬ (¬ (0 : Int32) = 0) from by decide) ?_
        refine wp_run 1 (pc' := 46) (ls' := [.ref 0, .int 1, .int x2, .int 2, .int x4, .int x5, .ref 67, .ref 69]) (st' := [.ref 69]) rfl ?_
        refine wp_callV (o := 69) (as := []) (rest := []) (els := [.ref 69]) rfl rfl rfl rfl rfl rfl rfl rfl (by omega) ?_
        refine wp_run 1 (pc' := 1) (ls' := [.ref 69]) (st' := [.ref 69]) rfl ?_
        refine wp_geti (a := 1) (h 69 1) rfl rfl rfl rfl ?_
        refine wp_if rfl (fun (cqz1 : ¬ (h 69 1) = 0) => ?_) (fun (cqz1 : ¬ (¬ (h 69 1) = 0)) => ?_)
        · skip
          refine wp_run 1 (pc' := 12) (ls' := [.ref 69]) (st' := [.int 0]) rfl ?_
          refine wp_retz rfl (Or.inl rfl) ?_
          show am_wp L xs _ _ _ _ 49 [.ref 0, .int 1, .int x2, .int 2, .int x4, .int x5, .ref 67, .ref 69] [.int 0] (am_S b) h _
          refine wp_if_t rfl (show (0 : Int32) = 0 from by decide) ?_
          refine wp_run 1 (pc' := 60) (ls' := [.ref 0, .int 1, .int x2, .int 2, .int x4, .int x5, .ref 67, .ref 69]) (st' := [.ref 67]) rfl ?_
          refine wp_geti (a := 1) (h 67 1) rfl rfl rfl rfl ?_
          refine wp_run 1 (pc' := 65) (ls' := [.ref 0, .int 1, .int x2, .int 2, .int x4, .int x5, .ref 67, .ref 69]) (st' := [.ref 69, .int (h 67 1)]) rfl ?_
          refine wp_geti (a := 1) (h 69 1) rfl rfl rfl rfl ?_
          refine wp_icmp rfl (fun (cqe : (h 67 1) = (h 69 1)) => ?_) (fun (cqe : ¬ ((h 67 1) = (h 69 1))) => ?_)
          · skip
            refine wp_run 3 (pc' := 82) (ls' := [.ref 0, .int 1, .int x2, .int 2, .int x4, .int x5, .ref 67, .ref 69]) (st' := [.int x5, .int x2, .ref 67]) rfl ?_
            refine wp_callV (o := 67) (as := [.int x2, .int x5]) (rest := []) (els := [.ref 67, .int x2, .int x5]) rfl rfl rfl rfl rfl rfl rfl rfl (by omega) ?_
            refine sp_holds (h := h) (o := 67) (l := l) rfl ho2 hl24 (by omega) ?_ ?_
            · skip
              intro k2 k5 e5 e2 hle1
              subst e5
              subst e2
              show am_wp L xs _ _ _ _ 85 [.ref 0, .int 1, .int (nI k2), .int 2, .int x4, .int (nI k5), .ref 67, .ref 69] [.int 1] (am_S b) h _
              refine wp_if_f rfl (show ¬ ((1 : Int32) = 0) from by decide) ?_
              refine wp_run 3 (pc' := 94) (ls' := [.ref 0, .int 1, .int (nI k2), .int 2, .int x4, .int (nI k5), .ref 67, .ref 69]) (st' := [.int (nI k5), .int x4, .ref 69]) rfl ?_
              refine wp_callV (o := 69) (as := [.int x4, .int (nI k5)]) (rest := []) (els := [.ref 69, .int x4, .int (nI k5)]) rfl rfl rfl rfl rfl rfl rfl rfl (by omega) ?_
              refine sp_holds (h := h) (o := 69) (l := lB) rfl ho2B hl24B (by omega) ?_ ?_
              · skip
                intro k4 n4 q1 e4 hle2
                have en := pu_inj (by omega) (by omega) q1
                subst en
                subst e4
                show am_wp L xs _ _ _ _ 97 [.ref 0, .int 1, .int (nI k2), .int 2, .int (nI k4), .int (nI k5), .ref 67, .ref 69] [.int 1] (am_S b) h _
                refine wp_if_t rfl (show ¬ (1 : Int32) = 0 from by decide) ?_
                refine wp_run 1 (pc' := 108) (ls' := [.ref 0, .int 1, .int (nI k2), .int 2, .int (nI k4), .int (nI k5), .ref 67, .ref 69]) (st' := [.ref 67]) rfl ?_
                refine wp_getr 68 rfl rfl rfl ?_
                refine wp_run 2 (pc' := 114) (ls' := [.ref 0, .int 1, .int (nI k2), .int 2, .int (nI k4), .int (nI k5), .ref 67, .ref 69]) (st' := [.ref 69, .int (nI k2), .ref 68]) rfl ?_
                refine wp_getr 70 rfl rfl rfl ?_
                refine wp_run 2 (pc' := 121) (ls' := [.ref 0, .int 1, .int (nI k2), .int 2, .int (nI k4), .int (nI k5), .ref 67, .ref 69]) (st' := [.int (nI k5), .int (nI k4), .ref 70, .int (nI k2), .ref 68]) rfl ?_
                refine wp_copy (q := 68) (o := 70) (sp := k2) (dp := k4) (n := k5) rfl rfl rfl rfl rfl rfl (by omega) (by omega) (by omega) (by omega) rfl (by omega) ?_
                refine wp_run 1 (pc' := 126) (ls' := [.ref 0, .int 1, .int (nI k2), .int 2, .int (nI k4), .int (nI k5), .ref 67, .ref 69]) (st' := [.int (nI k5)]) rfl ?_
                refine wp_ret rfl ?_
                refine kk _ _ _ (fun ms2 Q2 kk2 => ?_)
                refine wp_run 6 (pc' := 8) (ls' := [.ref 74, .int 1, .int (nI k2), .int 2, .int (nI k4), .int (nI k5), am_du, am_du, am_du]) (st' := [.int (nI k5), .int (nI k4), .int 2, .int (nI k2), .int 1, .ref 74]) rfl ?_
                refine wp_callV (o := 74) (as := [.int 1, .int (nI k2), .int 2, .int (nI k4), .int (nI k5)]) (rest := []) (els := [.ref 74, .int 1, .int (nI k2), .int 2, .int (nI k4), .int (nI k5), am_du]) rfl rfl rfl rfl rfl rfl rfl rfl (by omega) ?_
                refine wp_run 1 (pc' := 1) (ls' := [.ref 74, .int 1, .int (nI k2), .int 2, .int (nI k4), .int (nI k5), am_du]) (st' := [.int 1]) rfl ?_
                refine wp_callS (as := [.int 1]) (rest := []) (els := [.int 1]) rfl rfl rfl rfl rfl rfl rfl rfl (by omega) ?_
                refine sp_m_isSheet (by omega) (fun _ _ _ => ?_) (fun q => absurd rfl (q 1 (by omega)))
                show am_wp L xs _ _ _ _ 4 [.ref 74, .int 1, .int (nI k2), .int 2, .int (nI k4), .int (nI k5), am_du] [.int 1] (am_S b) (am_ur h 70 (va_cpy (h 68) (h 70) k2 k4 k5)) _
                refine wp_if_f rfl (show ¬ ((1 : Int32) = 0) from by decide) ?_
                refine wp_run 1 (pc' := 8) (ls' := [.ref 74, .int 1, .int (nI k2), .int 2, .int (nI k4), .int (nI k5), am_du]) (st' := [.int 2]) rfl ?_
                refine wp_callS (as := [.int 2]) (rest := []) (els := [.int 2]) rfl rfl rfl rfl rfl rfl rfl rfl (by omega) ?_
                refine sp_m_isSheet (by omega) (fun _ _ _ => ?_) (fun q => absurd rfl (q 2 (by omega)))
                show am_wp L xs _ _ _ _ 11 [.ref 74, .int 1, .int (nI k2), .int 2, .int (nI k4), .int (nI k5), am_du] [.int 1] (am_S b) (am_ur h 70 (va_cpy (h 68) (h 70) k2 k4 k5)) _
                refine wp_if_t rfl (show ¬ (1 : Int32) = 0 from by decide) ?_
                refine wp_run 1 (pc' := 18) (ls' := [.ref 74, .int 1, .int (nI k2), .int 2, .int (nI k4), .int (nI k5), am_du]) (st' := [.ref 74]) rfl ?_
                refine wp_getr 78 rfl rfl rfl ?_
                refine wp_run 1 (pc' := 22) (ls' := [.ref 74, .int 1, .int (nI k2), .int 2, .int (nI k4), .int (nI k5), am_du]) (st' := [.int 1, .ref 78]) rfl ?_
                refine wp_ald (i := 1) (h 78 1) rfl rfl rfl rfl (by decide) rfl ?_
                refine wp_if_f rfl (show ¬ ((h 78 1) = 0) from (fun q => cqz0 (hob.trans q))) ?_
                refine wp_run 1 (pc' := 27) (ls' := [.ref 74, .int 1, .int (nI k2), .int 2, .int (nI k4), .int (nI k5), am_du]) (st' := [.ref 74]) rfl ?_
                refine wp_getr 78 rfl rfl rfl ?_
                refine wp_run 1 (pc' := 31) (ls' := [.ref 74, .int 1, .int (nI k2), .int 2, .int (nI k4), .int (nI k5), am_du]) (st' := [.int 2, .ref 78]) rfl ?_
                refine wp_ald (i := 2) (h 78 2) rfl rfl rfl rfl (by decide) rfl ?_
                refine wp_if_t rfl (show ¬ (h 78 2) = 0 from (fun q => cqz1 (hobB.trans q))) ?_
                refine wp_run 1 (pc' := 39) (ls' := [.ref 74, .int 1, .int (nI k2), .int 2, .int (nI k4), .int (nI k5), am_du]) (st' := [.ref 74]) rfl ?_
                refine wp_getr 78 rfl rfl rfl ?_
                refine wp_run 1 (pc' := 43) (ls' := [.ref 74, .int 1, .int (nI k2), .int 2, .int (nI k4), .int (nI k5), am_du]) (st' := [.int 1, .ref 78]) rfl ?_
                refine wp_ald (i := 1) (h 78 1) rfl rfl rfl rfl (by decide) rfl ?_
                refine wp_run 1 (pc' := 45) (ls' := [.ref 74, .int 1, .int (nI k2), .int 2, .int (nI k4), .int (nI k5), am_du]) (st' := [.ref 74, .int (h 78 1)]) rfl ?_
                refine wp_getr 78 rfl rfl rfl ?_
                refine wp_run 1 (pc' := 49) (ls' := [.ref 74, .int 1, .int (nI k2), .int 2, .int (nI k4), .int (nI k5), am_du]) (st' := [.int 2, .ref 78, .int (h 78 1)]) rfl ?_
                refine wp_ald (i := 2) (h 78 2) rfl rfl rfl rfl (by decide) rfl ?_
                refine wp_icmp_t rfl (show (h 78 1) = (h 78 2) from (hob.symm.trans (cqe.trans hobB))) ?_
                refine wp_run 1 (pc' := 58) (ls' := [.ref 74, .int 1, .int (nI k2), .int 2, .int (nI k4), .int (nI k5), am_du]) (st' := [.int (nI k5)]) rfl ?_
                refine wp_if_f rfl (show ¬ ((nI k5) < 0) from mt (nI_ltI (a := k5) (b := 0) (by omega) (by omega)).mp (by omega)) ?_
                refine wp_run 1 (pc' := 62) (ls' := [.ref 74, .int 1, .int (nI k2), .int 2, .int (nI k4), .int (nI k5), am_du]) (st' := [.int (nI k2)]) rfl ?_
                refine wp_if_f rfl (show ¬ ((nI k2) < 0) from mt (nI_ltI (a := k2) (b := 0) (by omega) (by omega)).mp (by omega)) ?_
                refine wp_run 1 (pc' := 67) (ls' := [.ref 74, .int 1, .int (nI k2), .int 2, .int (nI k4), .int (nI k5), am_du]) (st' := [.int (nI k4)]) rfl ?_
                refine wp_if_f rfl (show ¬ ((nI k4) < 0) from mt (nI_ltI (a := k4) (b := 0) (by omega) (by omega)).mp (by omega)) ?_
                refine wp_run 2 (pc' := 73) (ls' := [.ref 74, .int 1, .int (nI k2), .int 2, .int (nI k4), .int (nI k5), am_du]) (st' := [.ref 74, .int (nI k5)]) rfl ?_
                refine wp_getr 79 rfl rfl rfl ?_
                refine wp_run 1 (pc' := 77) (ls' := [.ref 74, .int 1, .int (nI k2), .int 2, .int (nI k4), .int (nI k5), am_du]) (st' := [.int 1, .ref 79, .int (nI k5)]) rfl ?_
                refine wp_ald (i := 1) (nI l) hz2 rfl rfl rfl (by decide) rfl ?_
                refine wp_run 2 (pc' := 80) (ls' := [.ref 74, .int 1, .int (nI k2), .int 2, .int (nI k4), .int (nI k5), am_du]) (st' := [.int ((nI l) - (nI k2)), .int (nI k5)]) rfl ?_
                refine wp_icmp_f rfl (show ¬ (((nI l) - (nI k2)) < (nI k5)) from Int32.not_lt.mpr ((pu_suble (by omega) (by omega) hl24).mpr (by omega))) ?_
                refine wp_run 2 (pc' := 86) (ls' := [.ref 74, .int 1, .int (nI k2), .int 2, .int (nI k4), .int (nI k5), am_du]) (st' := [.ref 74, .int (nI k5)]) rfl ?_
                refine wp_getr 79 rfl rfl rfl ?_
                refine wp_run 1 (pc' := 90) (ls' := [.ref 74, .int 1, .int (nI k2), .int 2, .int (nI k4), .int (nI k5), am_du]) (st' := [.int 2, .ref 79, .int (nI k5)]) rfl ?_
                refine wp_ald (i := 2) (nI lB) hz2B rfl rfl rfl (by decide) rfl ?_
                refine wp_run 2 (pc' := 94) (ls' := [.ref 74, .int 1, .int (nI k2), .int 2, .int (nI k4), .int (nI k5), am_du]) (st' := [.int ((nI lB) - (nI k4)), .int (nI k5)]) rfl ?_
                refine wp_icmp_f rfl (show ¬ (((nI lB) - (nI k4)) < (nI k5)) from Int32.not_lt.mpr ((pu_suble (by omega) (by omega) hl24B).mpr (by omega))) ?_
                refine wp_run 4 (pc' := 106) (ls' := [.ref 74, .int 1, .int (nI k2), .int 2, .int (nI k4), .int (nI k5), .int 1]) (st' := [.int 1]) rfl ?_
                refine wp_if_f rfl (show ¬ ((1 : Int32) = 0) from by decide) ?_
                refine wp_run 2 (pc' := 115) (ls' := [.ref 74, .int 1, .int (nI k2), .int 2, .int (nI k4), .int (nI k5), .int 1]) (st' := [.int 0]) rfl ?_
                refine wp_ret rfl ?_
                show am_wp L xs _ _ _ _ 11 [.ref 74, .int 1, .int (nI k2), .int 2, .int (nI k4), .int (nI k5), am_du, am_du, am_du] [.int 0] (am_S b) (am_ur h 70 (va_cpy (h 68) (h 70) k2 k4 k5)) _
                refine wp_run 2 (pc' := 15) (ls' := [.ref 74, .int 1, .int (nI k2), .int 2, .int (nI k4), .int (nI k5), .int 0, am_du, am_du]) (st' := [.int 0]) rfl ?_
                refine wp_if_t rfl (show (0 : Int32) = 0 from by decide) ?_
                refine wp_run 2 (pc' := 28) (ls' := [.ref 74, .int 1, .int (nI k2), .int 2, .int (nI k4), .int (nI k5), .int 0, .int 0, am_du]) (st' := []) rfl ?_
                by_cases hij : k2 < k4
                · have hp := lp_mvd (L := L) (xs := xs) (d := d) (ms := ms2) (b := b) (h := (am_ur h 70 (va_cpy (h 68) (h 70) k2 k4 k5))) (Q := Q2) (s := 1) (o := 2) (i := k2) (j := k4) (n := k5) (by omega) (by omega) (by omega) (by omega) hij (by omega) ?_ k5 0 am_du (by omega)
                  · rw [mv_d0] at hp; exact hp
                  · exact kk2 _ _ ⟨⟨n, c, t, tp, wt, s0, s1, p0, p1, H⟩, re_im_s hI, hE, (re_sh_mo hS0 (by decide) (by omega)), (re_sh_mo hS1 (by decide) (by omega)), (re_sh_m hS1 hS2 (by omega) (by omega)), (re_sh_mo hS3 (by decide) (by omega)), hT⟩
                · have hp := lp_mva (L := L) (xs := xs) (d := d) (ms := ms2) (b := b) (h := (am_ur h 70 (va_cpy (h 68) (h 70) k2 k4 k5))) (Q := Q2) (s := 1) (o := 2) (i := k2) (j := k4) (n := k5) (by omega) (by omega) (by omega) (by omega) hij (by omega) ?_ k5 0 am_du (by omega)
                  · rw [mv_a0] at hp; exact hp
                  · exact kk2 _ _ ⟨⟨n, c, t, tp, wt, s0, s1, p0, p1, H⟩, re_im_s hI, hE, (re_sh_mo hS0 (by decide) (by omega)), (re_sh_mo hS1 (by decide) (by omega)), (re_sh_m hS1 hS2 (by omega) (by omega)), (re_sh_mo hS3 (by decide) (by omega)), hT⟩
              · skip
                intro hno2
                show am_wp L xs _ _ _ _ 97 [.ref 0, .int 1, .int (nI k2), .int 2, .int x4, .int (nI k5), .ref 67, .ref 69] [.int 0] (am_S b) h _
                refine wp_if_f rfl (show ¬ (¬ (0 : Int32) = 0) from by decide) ?_
                refine wp_run 2 (pc' := 102) (ls' := [.ref 0, .int 1, .int (nI k2), .int 2, .int x4, .int (nI k5), .ref 67, .ref 69]) (st' := [.int 1, .ref 0]) rfl ?_
                refine wp_callV (o := 0) (as := [.int 1]) (rest := []) (els := [.ref 0, .int 1]) rfl rfl rfl rfl rfl rfl rfl rfl (by omega) ?_
                refine sp_refuse1 (by omega) ?_
                show am_wp L xs _ _ _ _ 105 [.ref 0, .int 1, .int (nI k2), .int 2, .int x4, .int (nI k5), .ref 67, .ref 69] [.int (-1000000001)] (am_S b) (am_u h 73 1 (h 73 1 + 1)) _
                refine wp_ret rfl ?_
                refine kk _ _ _ (fun ms2 Q2 kk2 => ?_)
                refine wp_run 6 (pc' := 8) (ls' := [.ref 74, .int 1, .int (nI k2), .int 2, .int x4, .int (nI k5), am_du, am_du, am_du]) (st' := [.int (nI k5), .int x4, .int 2, .int (nI k2), .int 1, .ref 74]) rfl ?_
                refine wp_callV (o := 74) (as := [.int 1, .int (nI k2), .int 2, .int x4, .int (nI k5)]) (rest := []) (els := [.ref 74, .int 1, .int (nI k2), .int 2, .int x4, .int (nI k5), am_du]) rfl rfl rfl rfl rfl rfl rfl rfl (by omega) ?_
                refine wp_run 1 (pc' := 1) (ls' := [.ref 74, .int 1, .int (nI k2), .int 2, .int x4, .int (nI k5), am_du]) (st' := [.int 1]) rfl ?_
                refine wp_callS (as := [.int 1]) (rest := []) (els := [.int 1]) rfl rfl rfl rfl rfl rfl rfl rfl (by omega) ?_
                refine sp_m_isSheet (by omega) (fun _ _ _ => ?_) (fun q => absurd rfl (q 1 (by omega)))
                show am_wp L xs _ _ _ _ 4 [.ref 74, .int 1, .int (nI k2), .int 2, .int x4, .int (nI k5), am_du] [.int 1] (am_S b) (am_u h 73 1 (h 73 1 + 1)) _
                refine wp_if_f rfl (show ¬ ((1 : Int32) = 0) from by decide) ?_
                refine wp_run 1 (pc' := 8) (ls' := [.ref 74, .int 1, .int (nI k2), .int 2, .int x4, .int (nI k5), am_du]) (st' := [.int 2]) rfl ?_
                refine wp_callS (as := [.int 2]) (rest := []) (els := [.int 2]) rfl rfl rfl rfl rfl rfl rfl rfl (by omega) ?_
                refine sp_m_isSheet (by omega) (fun _ _ _ => ?_) (fun q => absurd rfl (q 2 (by omega)))
                show am_wp L xs _ _ _ _ 11 [.ref 74, .int 1, .int (nI k2), .int 2, .int x4, .int (nI k5), am_du] [.int 1] (am_S b) (am_u h 73 1 (h 73 1 + 1)) _
                refine wp_if_t rfl (show ¬ (1 : Int32) = 0 from by decide) ?_
                refine wp_run 1 (pc' := 18) (ls' := [.ref 74, .int 1, .int (nI k2), .int 2, .int x4, .int (nI k5), am_du]) (st' := [.ref 74]) rfl ?_
                refine wp_getr 78 rfl rfl rfl ?_
                refine wp_run 1 (pc' := 22) (ls' := [.ref 74, .int 1, .int (nI k2), .int 2, .int x4, .int (nI k5), am_du]) (st' := [.int 1, .ref 78]) rfl ?_
                refine wp_ald (i := 1) (h 78 1) rfl rfl rfl rfl (by decide) rfl ?_
                refine wp_if_f rfl (show ¬ ((h 78 1) = 0) from (fun q => cqz0 (hob.trans q))) ?_
                refine wp_run 1 (pc' := 27) (ls' := [.ref 74, .int 1, .int (nI k2), .int 2, .int x4, .int (nI k5), am_du]) (st' := [.ref 74]) rfl ?_
                refine wp_getr 78 rfl rfl rfl ?_
                refine wp_run 1 (pc' := 31) (ls' := [.ref 74, .int 1, .int (nI k2), .int 2, .int x4, .int (nI k5), am_du]) (st' := [.int 2, .ref 78]) rfl ?_
                refine wp_ald (i := 2) (h 78 2) rfl rfl rfl rfl (by decide) rfl ?_
                refine wp_if_t rfl (show ¬ (h 78 2) = 0 from (fun q => cqz1 (hobB.trans q))) ?_
                refine wp_run 1 (pc' := 39) (ls' := [.ref 74, .int 1, .int (nI k2), .int 2, .int x4, .int (nI k5), am_du]) (st' := [.ref 74]) rfl ?_
                refine wp_getr 78 rfl rfl rfl ?_
                refine wp_run 1 (pc' := 43) (ls' := [.ref 74, .int 1, .int (nI k2), .int 2, .int x4, .int (nI k5), am_du]) (st' := [.int 1, .ref 78]) rfl ?_
                refine wp_ald (i := 1) (h 78 1) rfl rfl rfl rfl (by decide) rfl ?_
                refine wp_run 1 (pc' := 45) (ls' := [.ref 74, .int 1, .int (nI k2), .int 2, .int x4, .int (nI k5), am_du]) (st' := [.ref 74, .int (h 78 1)]) rfl ?_
                refine wp_getr 78 rfl rfl rfl ?_
                refine wp_run 1 (pc' := 49) (ls' := [.ref 74, .int 1, .int (nI k2), .int 2, .int x4, .int (nI k5), am_du]) (st' := [.int 2, .ref 78, .int (h 78 1)]) rfl ?_
                refine wp_ald (i := 2) (h 78 2) rfl rfl rfl rfl (by decide) rfl ?_
                refine wp_icmp_t rfl (show (h 78 1) = (h 78 2) from (hob.symm.trans (cqe.trans hobB))) ?_
                refine wp_run 1 (pc' := 58) (ls' := [.ref 74, .int 1, .int (nI k2), .int 2, .int x4, .int (nI k5), am_du]) (st' := [.int (nI k5)]) rfl ?_
                refine wp_if_f rfl (show ¬ ((nI k5) < 0) from mt (nI_ltI (a := k5) (b := 0) (by omega) (by omega)).mp (by omega)) ?_
                refine wp_run 1 (pc' := 62) (ls' := [.ref 74, .int 1, .int (nI k2), .int 2, .int x4, .int (nI k5), am_du]) (st' := [.int (nI k2)]) rfl ?_
                refine wp_if_f rfl (show ¬ ((nI k2) < 0) from mt (nI_ltI (a := k2) (b := 0) (by omega) (by omega)).mp (by omega)) ?_
                refine wp_run 1 (pc' := 67) (ls' := [.ref 74, .int 1, .int (nI k2), .int 2, .int x4, .int (nI k5), am_du]) (st' := [.int x4]) rfl ?_
                refine wp_if rfl (fun (cq67 : x4 < 0) => ?_) (fun (cq67 : ¬ (x4 < 0)) => ?_)
                · skip
                  refine wp_run 3 (pc' := 106) (ls' := [.ref 74, .int 1, .int (nI k2), .int 2, .int x4, .int (nI k5), .int 0]) (st' := [.int 0]) rfl ?_
                  refine wp_if_t rfl (show (0 : Int32) = 0 from by decide) ?_
                  refine wp_run 1 (pc' := 115) (ls' := [.ref 74, .int 1, .int (nI k2), .int 2, .int x4, .int (nI k5), .int 0]) (st' := [.int (-1000000001)]) rfl ?_
                  refine wp_ret rfl ?_
                  show am_wp L xs _ _ _ _ 11 [.ref 74, .int 1, .int (nI k2), .int 2, .int x4, .int (nI k5), am_du, am_du, am_du] [.int (-1000000001)] (am_S b) (am_u h 73 1 (h 73 1 + 1)) _
                  refine wp_run 2 (pc' := 15) (ls' := [.ref 74, .int 1, .int (nI k2), .int 2, .int x4, .int (nI k5), .int (-1000000001), am_du, am_du]) (st' := [.int (-1000000001)]) rfl ?_
                  refine wp_if_f rfl (show ¬ (((-1000000001) : Int32) = 0) from by decide) ?_
                  refine wp_run 2 (pc' := 21) (ls' := [.ref 74, .int 1, .int (nI k2), .int 2, .int x4, .int (nI k5), .int (-1000000001), am_du, am_du]) (st' := [.int (-1000000001), .ref 74]) rfl ?_
                  refine wp_callV (o := 74) (as := [.int (-1000000001)]) (rest := []) (els := [.ref 74, .int (-1000000001)]) rfl rfl rfl rfl rfl rfl rfl rfl (by omega) ?_
                  refine sp_error1 ?_
                  show am_wp L xs _ _ _ _ 24 [.ref 74, .int 1, .int (nI k2), .int 2, .int x4, .int (nI k5), .int (-1000000001), am_du, am_du] [.int (-1000000001)] (am_S b) (am_u (am_u h 73 1 (h 73 1 + 1)) 77 1 ((am_u h 73 1 (h 73 1 + 1)) 77 1 + 1)) _
                  refine wp_ret rfl ?_
                  exact kk2 _ _ (re_err1 hR)
                · skip
                  obtain ⟨k4, hk4, ek4⟩ := pu_nonneg (Int32.not_lt.mp cq67)
                  subst ek4
                  refine wp_run 2 (pc' := 73) (ls' := [.ref 74, .int 1, .int (nI k2), .int 2, .int (nI k4), .int (nI k5), am_du]) (st' := [.ref 74, .int (nI k5)]) rfl ?_
                  refine wp_getr 79 rfl rfl rfl ?_
                  refine wp_run 1 (pc' := 77) (ls' := [.ref 74, .int 1, .int (nI k2), .int 2, .int (nI k4), .int (nI k5), am_du]) (st' := [.int 1, .ref 79, .int (nI k5)]) rfl ?_
                  refine wp_ald (i := 1) (nI l) hz2 rfl rfl rfl (by decide) rfl ?_
                  refine wp_run 2 (pc' := 80) (ls' := [.ref 74, .int 1, .int (nI k2), .int 2, .int (nI k4), .int (nI k5), am_du]) (st' := [.int ((nI l) - (nI k2)), .int (nI k5)]) rfl ?_
                  refine wp_icmp_f rfl (show ¬ (((nI l) - (nI k2)) < (nI k5)) from Int32.not_lt.mpr ((pu_suble (by omega) (by omega) hl24).mpr (by omega))) ?_
                  refine wp_run 2 (pc' := 86) (ls' := [.ref 74, .int 1, .int (nI k2), .int 2, .int (nI k4), .int (nI k5), am_du]) (st' := [.ref 74, .int (nI k5)]) rfl ?_
                  refine wp_getr 79 rfl rfl rfl ?_
                  refine wp_run 1 (pc' := 90) (ls' := [.ref 74, .int 1, .int (nI k2), .int 2, .int (nI k4), .int (nI k5), am_du]) (st' := [.int 2, .ref 79, .int (nI k5)]) rfl ?_
                  refine wp_ald (i := 2) (nI lB) hz2B rfl rfl rfl (by decide) rfl ?_
                  refine wp_run 2 (pc' := 94) (ls' := [.ref 74, .int 1, .int (nI k2), .int 2, .int (nI k4), .int (nI k5), am_du]) (st' := [.int ((nI lB) - (nI k4)), .int (nI k5)]) rfl ?_
                  refine wp_icmp_t rfl (show ((nI lB) - (nI k4)) < (nI k5) from Int32.not_le.mp (fun q => hno2 k4 k5 rfl rfl (by have := (pu_suble (by omega) (by omega) hl24B).mp q; omega))) ?_
                  refine wp_run 3 (pc' := 106) (ls' := [.ref 74, .int 1, .int (nI k2), .int 2, .int (nI k4), .int (nI k5), .int 0]) (st' := [.int 0]) rfl ?_
                  refine wp_if_t rfl (show (0 : Int32) = 0 from by decide) ?_
                  refine wp_run 1 (pc' := 115) (ls' := [.ref 74, .int 1, .int (nI k2), .int 2, .int (nI k4), .int (nI k5), .int 0]) (st' := [.int (-1000000001)]) rfl ?_
                  refine wp_ret rfl ?_
                  show am_wp L xs _ _ _ _ 11 [.ref 74, .int 1, .int (nI k2), .int 2, .int (nI k4), .int (nI k5), am_du, am_du, am_du] [.int (-1000000001)] (am_S b) (am_u h 73 1 (h 73 1 + 1)) _
                  refine wp_run 2 (pc' := 15) (ls' := [.ref 74, .int 1, .int (nI k2), .int 2, .int (nI k4), .int (nI k5), .int (-1000000001), am_du, am_du]) (st' := [.int (-1000000001)]) rfl ?_
                  refine wp_if_f rfl (show ¬ (((-1000000001) : Int32) = 0) from by decide) ?_
                  refine wp_run 2 (pc' := 21) (ls' := [.ref 74, .int 1, .int (nI k2), .int 2, .int (nI k4), .int (nI k5), .int (-1000000001), am_du, am_du]) (st' := [.int (-1000000001), .ref 74]) rfl ?_
                  refine wp_callV (o := 74) (as := [.int (-1000000001)]) (rest := []) (els := [.ref 74, .int (-1000000001)]) rfl rfl rfl rfl rfl rfl rfl rfl (by omega) ?_
                  refine sp_error1 ?_
                  show am_wp L xs _ _ _ _ 24 [.ref 74, .int 1, .int (nI k2), .int 2, .int (nI k4), .int (nI k5), .int (-1000000001), am_du, am_du] [.int (-1000000001)] (am_S b) (am_u (am_u h 73 1 (h 73 1 + 1)) 77 1 ((am_u h 73 1 (h 73 1 + 1)) 77 1 + 1)) _
                  refine wp_ret rfl ?_
                  exact kk2 _ _ (re_err1 hR)
            · skip
              intro hno1
              show am_wp L xs _ _ _ _ 85 [.ref 0, .int 1, .int x2, .int 2, .int x4, .int x5, .ref 67, .ref 69] [.int 0] (am_S b) h _
              refine wp_if_t rfl (show (0 : Int32) = 0 from by decide) ?_
              refine wp_run 2 (pc' := 102) (ls' := [.ref 0, .int 1, .int x2, .int 2, .int x4, .int x5, .ref 67, .ref 69]) (st' := [.int 1, .ref 0]) rfl ?_
              refine wp_callV (o := 0) (as := [.int 1]) (rest := []) (els := [.ref 0, .int 1]) rfl rfl rfl rfl rfl rfl rfl rfl (by omega) ?_
              refine sp_refuse1 (by omega) ?_
              show am_wp L xs _ _ _ _ 105 [.ref 0, .int 1, .int x2, .int 2, .int x4, .int x5, .ref 67, .ref 69] [.int (-1000000001)] (am_S b) (am_u h 73 1 (h 73 1 + 1)) _
              refine wp_ret rfl ?_
              refine kk _ _ _ (fun ms2 Q2 kk2 => ?_)
              refine wp_run 6 (pc' := 8) (ls' := [.ref 74, .int 1, .int x2, .int 2, .int x4, .int x5, am_du, am_du, am_du]) (st' := [.int x5, .int x4, .int 2, .int x2, .int 1, .ref 74]) rfl ?_
              refine wp_callV (o := 74) (as := [.int 1, .int x2, .int 2, .int x4, .int x5]) (rest := []) (els := [.ref 74, .int 1, .int x2, .int 2, .int x4, .int x5, am_du]) rfl rfl rfl rfl rfl rfl rfl rfl (by omega) ?_
              refine wp_run 1 (pc' := 1) (ls' := [.ref 74, .int 1, .int x2, .int 2, .int x4, .int x5, am_du]) (st' := [.int 1]) rfl ?_
              refine wp_callS (as := [.int 1]) (rest := []) (els := [.int 1]) rfl rfl rfl rfl rfl rfl rfl rfl (by omega) ?_
              refine sp_m_isSheet (by omega) (fun _ _ _ => ?_) (fun q => absurd rfl (q 1 (by omega)))
              show am_wp L xs _ _ _ _ 4 [.ref 74, .int 1, .int x2, .int 2, .int x4, .int x5, am_du] [.int 1] (am_S b) (am_u h 73 1 (h 73 1 + 1)) _
              refine wp_if_f rfl (show ¬ ((1 : Int32) = 0) from by decide) ?_
              refine wp_run 1 (pc' := 8) (ls' := [.ref 74, .int 1, .int x2, .int 2, .int x4, .int x5, am_du]) (st' := [.int 2]) rfl ?_
              refine wp_callS (as := [.int 2]) (rest := []) (els := [.int 2]) rfl rfl rfl rfl rfl rfl rfl rfl (by omega) ?_
              refine sp_m_isSheet (by omega) (fun _ _ _ => ?_) (fun q => absurd rfl (q 2 (by omega)))
              show am_wp L xs _ _ _ _ 11 [.ref 74, .int 1, .int x2, .int 2, .int x4, .int x5, am_du] [.int 1] (am_S b) (am_u h 73 1 (h 73 1 + 1)) _
              refine wp_if_t rfl (show ¬ (1 : Int32) = 0 from by decide) ?_
              refine wp_run 1 (pc' := 18) (ls' := [.ref 74, .int 1, .int x2, .int 2, .int x4, .int x5, am_du]) (st' := [.ref 74]) rfl ?_
              refine wp_getr 78 rfl rfl rfl ?_
              refine wp_run 1 (pc' := 22) (ls' := [.ref 74, .int 1, .int x2, .int 2, .int x4, .int x5, am_du]) (st' := [.int 1, .ref 78]) rfl ?_
              refine wp_ald (i := 1) (h 78 1) rfl rfl rfl rfl (by decide) rfl ?_
              refine wp_if_f rfl (show ¬ ((h 78 1) = 0) from (fun q => cqz0 (hob.trans q))) ?_
              refine wp_run 1 (pc' := 27) (ls' := [.ref 74, .int 1, .int x2, .int 2, .int x4, .int x5, am_du]) (st' := [.ref 74]) rfl ?_
              refine wp_getr 78 rfl rfl rfl ?_
              refine wp_run 1 (pc' := 31) (ls' := [.ref 74, .int 1, .int x2, .int 2, .int x4, .int x5, am_du]) (st' := [.int 2, .ref 78]) rfl ?_
              refine wp_ald (i := 2) (h 78 2) rfl rfl rfl rfl (by decide) rfl ?_
              refine wp_if_t rfl (show ¬ (h 78 2) = 0 from (fun q => cqz1 (hobB.trans q))) ?_
              refine wp_run 1 (pc' := 39) (ls' := [.ref 74, .int 1, .int x2, .int 2, .int x4, .int x5, am_du]) (st' := [.ref 74]) rfl ?_
              refine wp_getr 78 rfl rfl rfl ?_
              refine wp_run 1 (pc' := 43) (ls' := [.ref 74, .int 1, .int x2, .int 2, .int x4, .int x5, am_du]) (st' := [.int 1, .ref 78]) rfl ?_
              refine wp_ald (i := 1) (h 78 1) rfl rfl rfl rfl (by decide) rfl ?_
              refine wp_run 1 (pc' := 45) (ls' := [.ref 74, .int 1, .int x2, .int 2, .int x4, .int x5, am_du]) (st' := [.ref 74, .int (h 78 1)]) rfl ?_
              refine wp_getr 78 rfl rfl rfl ?_
              refine wp_run 1 (pc' := 49) (ls' := [.ref 74, .int 1, .int x2, .int 2, .int x4, .int x5, am_du]) (st' := [.int 2, .ref 78, .int (h 78 1)]) rfl ?_
              refine wp_ald (i := 2) (h 78 2) rfl rfl rfl rfl (by decide) rfl ?_
              refine wp_icmp_t rfl (show (h 78 1) = (h 78 2) from (hob.symm.trans (cqe.trans hobB))) ?_
              refine wp_run 1 (pc' := 58) (ls' := [.ref 74, .int 1, .int x2, .int 2, .int x4, .int x5, am_du]) (st' := [.int x5]) rfl ?_
              refine wp_if rfl (fun (cq58 : x5 < 0) => ?_) (fun (cq58 : ¬ (x5 < 0)) => ?_)
              · skip
                refine wp_run 3 (pc' := 106) (ls' := [.ref 74, .int 1, .int x2, .int 2, .int x4, .int x5, .int 0]) (st' := [.int 0]) rfl ?_
                refine wp_if_t rfl (show (0 : Int32) = 0 from by decide) ?_
                refine wp_run 1 (pc' := 115) (ls' := [.ref 74, .int 1, .int x2, .int 2, .int x4, .int x5, .int 0]) (st' := [.int (-1000000001)]) rfl ?_
                refine wp_ret rfl ?_
                show am_wp L xs _ _ _ _ 11 [.ref 74, .int 1, .int x2, .int 2, .int x4, .int x5, am_du, am_du, am_du] [.int (-1000000001)] (am_S b) (am_u h 73 1 (h 73 1 + 1)) _
                refine wp_run 2 (pc' := 15) (ls' := [.ref 74, .int 1, .int x2, .int 2, .int x4, .int x5, .int (-1000000001), am_du, am_du]) (st' := [.int (-1000000001)]) rfl ?_
                refine wp_if_f rfl (show ¬ (((-1000000001) : Int32) = 0) from by decide) ?_
                refine wp_run 2 (pc' := 21) (ls' := [.ref 74, .int 1, .int x2, .int 2, .int x4, .int x5, .int (-1000000001), am_du, am_du]) (st' := [.int (-1000000001), .ref 74]) rfl ?_
                refine wp_callV (o := 74) (as := [.int (-1000000001)]) (rest := []) (els := [.ref 74, .int (-1000000001)]) rfl rfl rfl rfl rfl rfl rfl rfl (by omega) ?_
                refine sp_error1 ?_
                show am_wp L xs _ _ _ _ 24 [.ref 74, .int 1, .int x2, .int 2, .int x4, .int x5, .int (-1000000001), am_du, am_du] [.int (-1000000001)] (am_S b) (am_u (am_u h 73 1 (h 73 1 + 1)) 77 1 ((am_u h 73 1 (h 73 1 + 1)) 77 1 + 1)) _
                refine wp_ret rfl ?_
                exact kk2 _ _ (re_err1 hR)
              · skip
                obtain ⟨k5, hk5, ek5⟩ := pu_nonneg (Int32.not_lt.mp cq58)
                subst ek5
                refine wp_run 1 (pc' := 62) (ls' := [.ref 74, .int 1, .int x2, .int 2, .int x4, .int (nI k5), am_du]) (st' := [.int x2]) rfl ?_
                refine wp_if rfl (fun (cq62 : x2 < 0) => ?_) (fun (cq62 : ¬ (x2 < 0)) => ?_)
                · skip
                  refine wp_run 3 (pc' := 106) (ls' := [.ref 74, .int 1, .int x2, .int 2, .int x4, .int (nI k5), .int 0]) (st' := [.int 0]) rfl ?_
                  refine wp_if_t rfl (show (0 : Int32) = 0 from by decide) ?_
                  refine wp_run 1 (pc' := 115) (ls' := [.ref 74, .int 1, .int x2, .int 2, .int x4, .int (nI k5), .int 0]) (st' := [.int (-1000000001)]) rfl ?_
                  refine wp_ret rfl ?_
                  show am_wp L xs _ _ _ _ 11 [.ref 74, .int 1, .int x2, .int 2, .int x4, .int (nI k5), am_du, am_du, am_du] [.int (-1000000001)] (am_S b) (am_u h 73 1 (h 73 1 + 1)) _
                  refine wp_run 2 (pc' := 15) (ls' := [.ref 74, .int 1, .int x2, .int 2, .int x4, .int (nI k5), .int (-1000000001), am_du, am_du]) (st' := [.int (-1000000001)]) rfl ?_
                  refine wp_if_f rfl (show ¬ (((-1000000001) : Int32) = 0) from by decide) ?_
                  refine wp_run 2 (pc' := 21) (ls' := [.ref 74, .int 1, .int x2, .int 2, .int x4, .int (nI k5), .int (-1000000001), am_du, am_du]) (st' := [.int (-1000000001), .ref 74]) rfl ?_
                  refine wp_callV (o := 74) (as := [.int (-1000000001)]) (rest := []) (els := [.ref 74, .int (-1000000001)]) rfl rfl rfl rfl rfl rfl rfl rfl (by omega) ?_
                  refine sp_error1 ?_
                  show am_wp L xs _ _ _ _ 24 [.ref 74, .int 1, .int x2, .int 2, .int x4, .int (nI k5), .int (-1000000001), am_du, am_du] [.int (-1000000001)] (am_S b) (am_u (am_u h 73 1 (h 73 1 + 1)) 77 1 ((am_u h 73 1 (h 73 1 + 1)) 77 1 + 1)) _
                  refine wp_ret rfl ?_
                  exact kk2 _ _ (re_err1 hR)
                · skip
                  obtain ⟨k2, hk2, ek2⟩ := pu_nonneg (Int32.not_lt.mp cq62)
                  subst ek2
                  refine wp_run 1 (pc' := 67) (ls' := [.ref 74, .int 1, .int (nI k2), .int 2, .int x4, .int (nI k5), am_du]) (st' := [.int x4]) rfl ?_
                  refine wp_if rfl (fun (cq67 : x4 < 0) => ?_) (fun (cq67 : ¬ (x4 < 0)) => ?_)
                  · skip
                    refine wp_run 3 (pc' := 106) (ls' := [.ref 74, .int 1, .int (nI k2), .int 2, .int x4, .int (nI k5), .int 0]) (st' := [.int 0]) rfl ?_
                    refine wp_if_t rfl (show (0 : Int32) = 0 from by decide) ?_
                    refine wp_run 1 (pc' := 115) (ls' := [.ref 74, .int 1, .int (nI k2), .int 2, .int x4, .int (nI k5), .int 0]) (st' := [.int (-1000000001)]) rfl ?_
                    refine wp_ret rfl ?_
                    show am_wp L xs _ _ _ _ 11 [.ref 74, .int 1, .int (nI k2), .int 2, .int x4, .int (nI k5), am_du, am_du, am_du] [.int (-1000000001)] (am_S b) (am_u h 73 1 (h 73 1 + 1)) _
                    refine wp_run 2 (pc' := 15) (ls' := [.ref 74, .int 1, .int (nI k2), .int 2, .int x4, .int (nI k5), .int (-1000000001), am_du, am_du]) (st' := [.int (-1000000001)]) rfl ?_
                    refine wp_if_f rfl (show ¬ (((-1000000001) : Int32) = 0) from by decide) ?_
                    refine wp_run 2 (pc' := 21) (ls' := [.ref 74, .int 1, .int (nI k2), .int 2, .int x4, .int (nI k5), .int (-1000000001), am_du, am_du]) (st' := [.int (-1000000001), .ref 74]) rfl ?_
                    refine wp_callV (o := 74) (as := [.int (-1000000001)]) (rest := []) (els := [.ref 74, .int (-1000000001)]) rfl rfl rfl rfl rfl rfl rfl rfl (by omega) ?_
                    refine sp_error1 ?_
                    show am_wp L xs _ _ _ _ 24 [.ref 74, .int 1, .int (nI k2), .int 2, .int x4, .int (nI k5), .int (-1000000001), am_du, am_du] [.int (-1000000001)] (am_S b) (am_u (am_u h 73 1 (h 73 1 + 1)) 77 1 ((am_u h 73 1 (h 73 1 + 1)) 77 1 + 1)) _
                    refine wp_ret rfl ?_
                    exact kk2 _ _ (re_err1 hR)
                  · skip
                    obtain ⟨k4, hk4, ek4⟩ := pu_nonneg (Int32.not_lt.mp cq67)
                    subst ek4
                    refine wp_run 2 (pc' := 73) (ls' := [.ref 74, .int 1, .int (nI k2), .int 2, .int (nI k4), .int (nI k5), am_du]) (st' := [.ref 74, .int (nI k5)]) rfl ?_
                    refine wp_getr 79 rfl rfl rfl ?_
                    refine wp_run 1 (pc' := 77) (ls' := [.ref 74, .int 1, .int (nI k2), .int 2, .int (nI k4), .int (nI k5), am_du]) (st' := [.int 1, .ref 79, .int (nI k5)]) rfl ?_
                    refine wp_ald (i := 1) (nI l) hz2 rfl rfl rfl (by decide) rfl ?_
                    refine wp_run 2 (pc' := 80) (ls' := [.ref 74, .int 1, .int (nI k2), .int 2, .int (nI k4), .int (nI k5), am_du]) (st' := [.int ((nI l) - (nI k2)), .int (nI k5)]) rfl ?_
                    refine wp_icmp_t rfl (show ((nI l) - (nI k2)) < (nI k5) from Int32.not_le.mp (fun q => hno1 k2 k5 rfl rfl (by have := (pu_suble (by omega) (by omega) hl24).mp q; omega))) ?_
                    refine wp_run 3 (pc' := 106) (ls' := [.ref 74, .int 1, .int (nI k2), .int 2, .int (nI k4), .int (nI k5), .int 0]) (st' := [.int 0]) rfl ?_
                    refine wp_if_t rfl (show (0 : Int32) = 0 from by decide) ?_
                    refine wp_run 1 (pc' := 115) (ls' := [.ref 74, .int 1, .int (nI k2), .int 2, .int (nI k4), .int (nI k5), .int 0]) (st' := [.int (-1000000001)]) rfl ?_
                    refine wp_ret rfl ?_
                    show am_wp L xs _ _ _ _ 11 [.ref 74, .int 1, .int (nI k2), .int 2, .int (nI k4), .int (nI k5), am_du, am_du, am_du] [.int (-1000000001)] (am_S b) (am_u h 73 1 (h 73 1 + 1)) _
                    refine wp_run 2 (pc' := 15) (ls' := [.ref 74, .int 1, .int (nI k2), .int 2, .int (nI k4), .int (nI k5), .int (-1000000001), am_du, am_du]) (st' := [.int (-1000000001)]) rfl ?_
                    refine wp_if_f rfl (show ¬ (((-1000000001) : Int32) = 0) from by decide) ?_
                    refine wp_run 2 (pc' := 21) (ls' := [.ref 74, .int 1, .int (nI k2), .int 2, .int (nI k4), .int (nI k5), .int (-1000000001), am_du, am_du]) (st' := [.int (-1000000001), .ref 74]) rfl ?_
                    refine wp_callV (o := 74) (as := [.int (-1000000001)]) (rest := []) (els := [.ref 74, .int (-1000000001)]) rfl rfl rfl rfl rfl rfl rfl rfl (by omega) ?_
                    refine sp_error1 ?_
                    show am_wp L xs _ _ _ _ 24 [.ref 74, .int 1, .int (nI k2), .int 2, .int (nI k4), .int (nI k5), .int (-1000000001), am_du, am_du] [.int (-1000000001)] (am_S b) (am_u (am_u h 73 1 (h 73 1 + 1)) 77 1 ((am_u h 73 1 (h 73 1 + 1)) 77 1 + 1)) _
                    refine wp_ret rfl ?_
                    exact kk2 _ _ (re_err1 hR)
          · skip
            refine wp_run 2 (pc' := 73) (ls' := [.ref 0, .int 1, .int x2, .int 2, .int x4, .int x5, .ref 67, .ref 69]) (st' := [.int 5, .ref 0]) rfl ?_
            refine wp_callV (o := 0) (as := [.int 5]) (rest := []) (els := [.ref 0, .int 5]) rfl rfl rfl rfl rfl rfl rfl rfl (by omega) ?_
            refine sp_refuse5 (by omega) ?_
            show am_wp L xs _ _ _ _ 76 [.ref 0, .int 1, .int x2, .int 2, .int x4, .int x5, .ref 67, .ref 69] [.int (-1000000005)] (am_S b) (am_u h 73 5 (h 73 5 + 1)) _
            refine wp_ret rfl ?_
            refine kk _ _ _ (fun ms2 Q2 kk2 => ?_)
            refine wp_run 6 (pc' := 8) (ls' := [.ref 74, .int 1, .int x2, .int 2, .int x4, .int x5, am_du, am_du, am_du]) (st' := [.int x5, .int x4, .int 2, .int x2, .int 1, .ref 74]) rfl ?_
            refine wp_callV (o := 74) (as := [.int 1, .int x2, .int 2, .int x4, .int x5]) (rest := []) (els := [.ref 74, .int 1, .int x2, .int 2, .int x4, .int x5, am_du]) rfl rfl rfl rfl rfl rfl rfl rfl (by omega) ?_
            refine wp_run 1 (pc' := 1) (ls' := [.ref 74, .int 1, .int x2, .int 2, .int x4, .int x5, am_du]) (st' := [.int 1]) rfl ?_
            refine wp_callS (as := [.int 1]) (rest := []) (els := [.int 1]) rfl rfl rfl rfl rfl rfl rfl rfl (by omega) ?_
            refine sp_m_isSheet (by omega) (fun _ _ _ => ?_) (fun q => absurd rfl (q 1 (by omega)))
            show am_wp L xs _ _ _ _ 4 [.ref 74, .int 1, .int x2, .int 2, .int x4, .int x5, am_du] [.int 1] (am_S b) (am_u h 73 5 (h 73 5 + 1)) _
            refine wp_if_f rfl (show ¬ ((1 : Int32) = 0) from by decide) ?_
            refine wp_run 1 (pc' := 8) (ls' := [.ref 74, .int 1, .int x2, .int 2, .int x4, .int x5, am_du]) (st' := [.int 2]) rfl ?_
            refine wp_callS (as := [.int 2]) (rest := []) (els := [.int 2]) rfl rfl rfl rfl rfl rfl rfl rfl (by omega) ?_
            refine sp_m_isSheet (by omega) (fun _ _ _ => ?_) (fun q => absurd rfl (q 2 (by omega)))
            show am_wp L xs _ _ _ _ 11 [.ref 74, .int 1, .int x2, .int 2, .int x4, .int x5, am_du] [.int 1] (am_S b) (am_u h 73 5 (h 73 5 + 1)) _
            refine wp_if_t rfl (show ¬ (1 : Int32) = 0 from by decide) ?_
            refine wp_run 1 (pc' := 18) (ls' := [.ref 74, .int 1, .int x2, .int 2, .int x4, .int x5, am_du]) (st' := [.ref 74]) rfl ?_
            refine wp_getr 78 rfl rfl rfl ?_
            refine wp_run 1 (pc' := 22) (ls' := [.ref 74, .int 1, .int x2, .int 2, .int x4, .int x5, am_du]) (st' := [.int 1, .ref 78]) rfl ?_
            refine wp_ald (i := 1) (h 78 1) rfl rfl rfl rfl (by decide) rfl ?_
            refine wp_if_f rfl (show ¬ ((h 78 1) = 0) from (fun q => cqz0 (hob.trans q))) ?_
            refine wp_run 1 (pc' := 27) (ls' := [.ref 74, .int 1, .int x2, .int 2, .int x4, .int x5, am_du]) (st' := [.ref 74]) rfl ?_
            refine wp_getr 78 rfl rfl rfl ?_
            refine wp_run 1 (pc' := 31) (ls' := [.ref 74, .int 1, .int x2, .int 2, .int x4, .int x5, am_du]) (st' := [.int 2, .ref 78]) rfl ?_
            refine wp_ald (i := 2) (h 78 2) rfl rfl rfl rfl (by decide) rfl ?_
            refine wp_if_t rfl (show ¬ (h 78 2) = 0 from (fun q => cqz1 (hobB.trans q))) ?_
            refine wp_run 1 (pc' := 39) (ls' := [.ref 74, .int 1, .int x2, .int 2, .int x4, .int x5, am_du]) (st' := [.ref 74]) rfl ?_
            refine wp_getr 78 rfl rfl rfl ?_
            refine wp_run 1 (pc' := 43) (ls' := [.ref 74, .int 1, .int x2, .int 2, .int x4, .int x5, am_du]) (st' := [.int 1, .ref 78]) rfl ?_
            refine wp_ald (i := 1) (h 78 1) rfl rfl rfl rfl (by decide) rfl ?_
            refine wp_run 1 (pc' := 45) (ls' := [.ref 74, .int 1, .int x2, .int 2, .int x4, .int x5, am_du]) (st' := [.ref 74, .int (h 78 1)]) rfl ?_
            refine wp_getr 78 rfl rfl rfl ?_
            refine wp_run 1 (pc' := 49) (ls' := [.ref 74, .int 1, .int x2, .int 2, .int x4, .int x5, am_du]) (st' := [.int 2, .ref 78, .int (h 78 1)]) rfl ?_
            refine wp_ald (i := 2) (h 78 2) rfl rfl rfl rfl (by decide) rfl ?_
            refine wp_icmp_f rfl (show ¬ ((h 78 1) = (h 78 2)) from (fun q => cqe (hob.trans (q.trans hobB.symm)))) ?_
            refine wp_run 1 (pc' := 55) (ls' := [.ref 74, .int 1, .int x2, .int 2, .int x4, .int x5, am_du]) (st' := [.int (-1000000005)]) rfl ?_
            refine wp_ret rfl ?_
            show am_wp L xs _ _ _ _ 11 [.ref 74, .int 1, .int x2, .int 2, .int x4, .int x5, am_du, am_du, am_du] [.int (-1000000005)] (am_S b) (am_u h 73 5 (h 73 5 + 1)) _
            refine wp_run 2 (pc' := 15) (ls' := [.ref 74, .int 1, .int x2, .int 2, .int x4, .int x5, .int (-1000000005), am_du, am_du]) (st' := [.int (-1000000005)]) rfl ?_
            refine wp_if_f rfl (show ¬ (((-1000000005) : Int32) = 0) from by decide) ?_
            refine wp_run 2 (pc' := 21) (ls' := [.ref 74, .int 1, .int x2, .int 2, .int x4, .int x5, .int (-1000000005), am_du, am_du]) (st' := [.int (-1000000005), .ref 74]) rfl ?_
            refine wp_callV (o := 74) (as := [.int (-1000000005)]) (rest := []) (els := [.ref 74, .int (-1000000005)]) rfl rfl rfl rfl rfl rfl rfl rfl (by omega) ?_
            refine sp_error5 ?_
            show am_wp L xs _ _ _ _ 24 [.ref 74, .int 1, .int x2, .int 2, .int x4, .int x5, .int (-1000000005), am_du, am_du] [.int (-1000000005)] (am_S b) (am_u (am_u h 73 5 (h 73 5 + 1)) 77 5 ((am_u h 73 5 (h 73 5 + 1)) 77 5 + 1)) _
            refine wp_ret rfl ?_
            exact kk2 _ _ (re_err5 hR)
        · skip
          replace cqz1 := Decidable.not_not.mp cqz1
          refine wp_run 2 (pc' := 12) (ls' := [.ref 69]) (st' := [.int 1]) rfl ?_
          refine wp_retz rfl (Or.inr rfl) ?_
          show am_wp L xs _ _ _ _ 49 [.ref 0, .int 1, .int x2, .int 2, .int x4, .int x5, .ref 67, .ref 69] [.int 1] (am_S b) h _
          refine wp_if_f rfl (show ¬ ((1 : Int32) = 0) from by decide) ?_
          refine wp_run 2 (pc' := 54) (ls' := [.ref 0, .int 1, .int x2, .int 2, .int x4, .int x5, .ref 67, .ref 69]) (st' := [.int 2, .ref 0]) rfl ?_
          refine wp_callV (o := 0) (as := [.int 2]) (rest := []) (els := [.ref 0, .int 2]) rfl rfl rfl rfl rfl rfl rfl rfl (by omega) ?_
          refine sp_refuse2 (by omega) ?_
          show am_wp L xs _ _ _ _ 57 [.ref 0, .int 1, .int x2, .int 2, .int x4, .int x5, .ref 67, .ref 69] [.int (-1000000002)] (am_S b) (am_u h 73 2 (h 73 2 + 1)) _
          refine wp_ret rfl ?_
          refine kk _ _ _ (fun ms2 Q2 kk2 => ?_)
          refine wp_run 6 (pc' := 8) (ls' := [.ref 74, .int 1, .int x2, .int 2, .int x4, .int x5, am_du, am_du, am_du]) (st' := [.int x5, .int x4, .int 2, .int x2, .int 1, .ref 74]) rfl ?_
          refine wp_callV (o := 74) (as := [.int 1, .int x2, .int 2, .int x4, .int x5]) (rest := []) (els := [.ref 74, .int 1, .int x2, .int 2, .int x4, .int x5, am_du]) rfl rfl rfl rfl rfl rfl rfl rfl (by omega) ?_
          refine wp_run 1 (pc' := 1) (ls' := [.ref 74, .int 1, .int x2, .int 2, .int x4, .int x5, am_du]) (st' := [.int 1]) rfl ?_
          refine wp_callS (as := [.int 1]) (rest := []) (els := [.int 1]) rfl rfl rfl rfl rfl rfl rfl rfl (by omega) ?_
          refine sp_m_isSheet (by omega) (fun _ _ _ => ?_) (fun q => absurd rfl (q 1 (by omega)))
          show am_wp L xs _ _ _ _ 4 [.ref 74, .int 1, .int x2, .int 2, .int x4, .int x5, am_du] [.int 1] (am_S b) (am_u h 73 2 (h 73 2 + 1)) _
          refine wp_if_f rfl (show ¬ ((1 : Int32) = 0) from by decide) ?_
          refine wp_run 1 (pc' := 8) (ls' := [.ref 74, .int 1, .int x2, .int 2, .int x4, .int x5, am_du]) (st' := [.int 2]) rfl ?_
          refine wp_callS (as := [.int 2]) (rest := []) (els := [.int 2]) rfl rfl rfl rfl rfl rfl rfl rfl (by omega) ?_
          refine sp_m_isSheet (by omega) (fun _ _ _ => ?_) (fun q => absurd rfl (q 2 (by omega)))
          show am_wp L xs _ _ _ _ 11 [.ref 74, .int 1, .int x2, .int 2, .int x4, .int x5, am_du] [.int 1] (am_S b) (am_u h 73 2 (h 73 2 + 1)) _
          refine wp_if_t rfl (show ¬ (1 : Int32) = 0 from by decide) ?_
          refine wp_run 1 (pc' := 18) (ls' := [.ref 74, .int 1, .int x2, .int 2, .int x4, .int x5, am_du]) (st' := [.ref 74]) rfl ?_
          refine wp_getr 78 rfl rfl rfl ?_
          refine wp_run 1 (pc' := 22) (ls' := [.ref 74, .int 1, .int x2, .int 2, .int x4, .int x5, am_du]) (st' := [.int 1, .ref 78]) rfl ?_
          refine wp_ald (i := 1) (h 78 1) rfl rfl rfl rfl (by decide) rfl ?_
          refine wp_if_f rfl (show ¬ ((h 78 1) = 0) from (fun q => cqz0 (hob.trans q))) ?_
          refine wp_run 1 (pc' := 27) (ls' := [.ref 74, .int 1, .int x2, .int 2, .int x4, .int x5, am_du]) (st' := [.ref 74]) rfl ?_
          refine wp_getr 78 rfl rfl rfl ?_
          refine wp_run 1 (pc' := 31) (ls' := [.ref 74, .int 1, .int x2, .int 2, .int x4, .int x5, am_du]) (st' := [.int 2, .ref 78]) rfl ?_
          refine wp_ald (i := 2) (h 78 2) rfl rfl rfl rfl (by decide) rfl ?_
          refine wp_if_f rfl (show ¬ (¬ (h 78 2) = 0) from (fun q => q (hobB.symm.trans cqz1))) ?_
          refine wp_run 1 (pc' := 37) (ls' := [.ref 74, .int 1, .int x2, .int 2, .int x4, .int x5, am_du]) (st' := [.int (-1000000002)]) rfl ?_
          refine wp_ret rfl ?_
          show am_wp L xs _ _ _ _ 11 [.ref 74, .int 1, .int x2, .int 2, .int x4, .int x5, am_du, am_du, am_du] [.int (-1000000002)] (am_S b) (am_u h 73 2 (h 73 2 + 1)) _
          refine wp_run 2 (pc' := 15) (ls' := [.ref 74, .int 1, .int x2, .int 2, .int x4, .int x5, .int (-1000000002), am_du, am_du]) (st' := [.int (-1000000002)]) rfl ?_
          refine wp_if_f rfl (show ¬ (((-1000000002) : Int32) = 0) from by decide) ?_
          refine wp_run 2 (pc' := 21) (ls' := [.ref 74, .int 1, .int x2, .int 2, .int x4, .int x5, .int (-1000000002), am_du, am_du]) (st' := [.int (-1000000002), .ref 74]) rfl ?_
          refine wp_callV (o := 74) (as := [.int (-1000000002)]) (rest := []) (els := [.ref 74, .int (-1000000002)]) rfl rfl rfl rfl rfl rfl rfl rfl (by omega) ?_
          refine sp_error2 ?_
          show am_wp L xs _ _ _ _ 24 [.ref 74, .int 1, .int x2, .int 2, .int x4, .int x5, .int (-1000000002), am_du, am_du] [.int (-1000000002)] (am_S b) (am_u (am_u h 73 2 (h 73 2 + 1)) 77 2 ((am_u h 73 2 (h 73 2 + 1)) 77 2 + 1)) _
          refine wp_ret rfl ?_
          exact kk2 _ _ (re_err2 hR)
      · skip
        replace cqz0 := Decidable.not_not.mp cqz0
        refine wp_run 2 (pc' := 12) (ls' := [.ref 67]) (st' := [.int 1]) rfl ?_
        refine wp_retz rfl (Or.inr rfl) ?_
        show am_wp L xs _ _ _ _ 41 [.ref 0, .int 1, .int x2, .int 2, .int x4, .int x5, .ref 67, .ref 69] [.int 1] (am_S b) h _
        refine wp_if_t rfl (show ¬ (1 : Int32) = 0 from by decide) ?_
        refine wp_run 2 (pc' := 54) (ls' := [.ref 0, .int 1, .int x2, .int 2, .int x4, .int x5, .ref 67, .ref 69]) (st' := [.int 2, .ref 0]) rfl ?_
        refine wp_callV (o := 0) (as := [.int 2]) (rest := []) (els := [.ref 0, .int 2]) rfl rfl rfl rfl rfl rfl rfl rfl (by omega) ?_
        refine sp_refuse2 (by omega) ?_
        show am_wp L xs _ _ _ _ 57 [.ref 0, .int 1, .int x2, .int 2, .int x4, .int x5, .ref 67, .ref 69] [.int (-1000000002)] (am_S b) (am_u h 73 2 (h 73 2 + 1)) _
        refine wp_ret rfl ?_
        refine kk _ _ _ (fun ms2 Q2 kk2 => ?_)
        refine wp_run 6 (pc' := 8) (ls' := [.ref 74, .int 1, .int x2, .int 2, .int x4, .int x5, am_du, am_du, am_du]) (st' := [.int x5, .int x4, .int 2, .int x2, .int 1, .ref 74]) rfl ?_
        refine wp_callV (o := 74) (as := [.int 1, .int x2, .int 2, .int x4, .int x5]) (rest := []) (els := [.ref 74, .int 1, .int x2, .int 2, .int x4, .int x5, am_du]) rfl rfl rfl rfl rfl rfl rfl rfl (by omega) ?_
        refine wp_run 1 (pc' := 1) (ls' := [.ref 74, .int 1, .int x2, .int 2, .int x4, .int x5, am_du]) (st' := [.int 1]) rfl ?_
        refine wp_callS (as := [.int 1]) (rest := []) (els := [.int 1]) rfl rfl rfl rfl rfl rfl rfl rfl (by omega) ?_
        refine sp_m_isSheet (by omega) (fun _ _ _ => ?_) (fun q => absurd rfl (q 1 (by omega)))
        show am_wp L xs _ _ _ _ 4 [.ref 74, .int 1, .int x2, .int 2, .int x4, .int x5, am_du] [.int 1] (am_S b) (am_u h 73 2 (h 73 2 + 1)) _
        refine wp_if_f rfl (show ¬ ((1 : Int32) = 0) from by decide) ?_
        refine wp_run 1 (pc' := 8) (ls' := [.ref 74, .int 1, .int x2, .int 2, .int x4, .int x5, am_du]) (st' := [.int 2]) rfl ?_
        refine wp_callS (as := [.int 2]) (rest := []) (els := [.int 2]) rfl rfl rfl rfl rfl rfl rfl rfl (by omega) ?_
        refine sp_m_isSheet (by omega) (fun _ _ _ => ?_) (fun q => absurd rfl (q 2 (by omega)))
        show am_wp L xs _ _ _ _ 11 [.ref 74, .int 1, .int x2, .int 2, .int x4, .int x5, am_du] [.int 1] (am_S b) (am_u h 73 2 (h 73 2 + 1)) _
        refine wp_if_t rfl (show ¬ (1 : Int32) = 0 from by decide) ?_
        refine wp_run 1 (pc' := 18) (ls' := [.ref 74, .int 1, .int x2, .int 2, .int x4, .int x5, am_du]) (st' := [.ref 74]) rfl ?_
        refine wp_getr 78 rfl rfl rfl ?_
        refine wp_run 1 (pc' := 22) (ls' := [.ref 74, .int 1, .int x2, .int 2, .int x4, .int x5, am_du]) (st' := [.int 1, .ref 78]) rfl ?_
        refine wp_ald (i := 1) (h 78 1) rfl rfl rfl rfl (by decide) rfl ?_
        refine wp_if_t rfl (show (h 78 1) = 0 from (hob.symm.trans cqz0)) ?_
        refine wp_run 1 (pc' := 37) (ls' := [.ref 74, .int 1, .int x2, .int 2, .int x4, .int x5, am_du]) (st' := [.int (-1000000002)]) rfl ?_
        refine wp_ret rfl ?_
        show am_wp L xs _ _ _ _ 11 [.ref 74, .int 1, .int x2, .int 2, .int x4, .int x5, am_du, am_du, am_du] [.int (-1000000002)] (am_S b) (am_u h 73 2 (h 73 2 + 1)) _
        refine wp_run 2 (pc' := 15) (ls' := [.ref 74, .int 1, .int x2, .int 2, .int x4, .int x5, .int (-1000000002), am_du, am_du]) (st' := [.int (-1000000002)]) rfl ?_
        refine wp_if_f rfl (show ¬ (((-1000000002) : Int32) = 0) from by decide) ?_
        refine wp_run 2 (pc' := 21) (ls' := [.ref 74, .int 1, .int x2, .int 2, .int x4, .int x5, .int (-1000000002), am_du, am_du]) (st' := [.int (-1000000002), .ref 74]) rfl ?_
        refine wp_callV (o := 74) (as := [.int (-1000000002)]) (rest := []) (els := [.ref 74, .int (-1000000002)]) rfl rfl rfl rfl rfl rfl rfl rfl (by omega) ?_
        refine sp_error2 ?_
        show am_wp L xs _ _ _ _ 24 [.ref 74, .int 1, .int x2, .int 2, .int x4, .int x5, .int (-1000000002), am_du, am_du] [.int (-1000000002)] (am_S b) (am_u (am_u h 73 2 (h 73 2 + 1)) 77 2 ((am_u h 73 2 (h 73 2 + 1)) 77 2 + 1)) _
        refine wp_ret rfl ?_
        exact kk2 _ _ (re_err2 hR)
    · skip
      intro ex3
      subst ex3
      show am_wp L xs _ _ _ _ 11 [.ref 0, .int 1, .int x2, .int 3, .int x4, .int x5, am_du, am_du] [.int 1] (am_S b) h _
      refine wp_if_t rfl (show ¬ (1 : Int32) = 0 from by decide) ?_
      obtain ⟨l, hl24, ho2, hz2, hob, hbb, hri⟩ := id hS1
      obtain ⟨lB, hl24B, ho2B, hz2B, hobB, hbbB, hriB⟩ := id hS3
      refine wp_run 1 (pc' := 21) (ls' := [.ref 0, .int 1, .int x2, .int 3, .int x4, .int x5, am_du, am_du]) (st' := [.ref 0]) rfl ?_
      refine wp_getr 64 rfl rfl rfl ?_
      refine wp_run 1 (pc' := 25) (ls' := [.ref 0, .int 1, .int x2, .int 3, .int x4, .int x5, am_du, am_du]) (st' := [.int 1, .ref 64]) rfl ?_
      refine wp_aald (r := 67) rfl rfl (Or.inr rfl) rfl (by decide) rfl rfl ?_
      refine wp_run 2 (pc' := 29) (ls' := [.ref 0, .int 1, .int x2, .int 3, .int x4, .int x5, .ref 67, am_du]) (st' := [.ref 0]) rfl ?_
      refine wp_getr 64 rfl rfl rfl ?_
      refine wp_run 1 (pc' := 33) (ls' := [.ref 0, .int 1, .int x2, .int 3, .int x4, .int x5, .ref 67, am_du]) (st' := [.int 3, .ref 64]) rfl ?_
      refine wp_aald (r := 71) rfl rfl (Or.inr rfl) rfl (by decide) rfl rfl ?_
      refine wp_run 2 (pc' := 38) (ls' := [.ref 0, .int 1, .int x2, .int 3, .int x4, .int x5, .ref 67, .ref 71]) (st' := [.ref 67]) rfl ?_
      refine wp_callV (o := 67) (as := []) (rest := []) (els := [.ref 67]) rfl rfl rfl rfl rfl rfl rfl rfl (by omega) ?_
      refine wp_run 1 (pc' := 1) (ls' := [.ref 67]) (st' := [.ref 67]) rfl ?_
      refine wp_geti (a := 1) (h 67 1) rfl rfl rfl rfl ?_
      refine wp_if rfl (fun (cqz0 : ¬ (h 67 1) = 0) => ?_) (fun (cqz0 : ¬ (¬ (h 67 1) = 0)) => ?_)
      · skip
        refine wp_run 1 (pc' := 12) (ls' := [.ref 67]) (st' := [.int 0]) rfl ?_
        refine wp_retz rfl (Or.inl rfl) ?_
        show am_wp L xs _ _ _ _ 41 [.ref 0, .int 1, .int x2, .int 3, .int x4, .int x5, .ref 67, .ref 71] [.int 0] (am_S b) h _
        refine wp_if_f rfl (show ¬ (¬ (0 : Int32) = 0) from by decide) ?_
        refine wp_run 1 (pc' := 46) (ls' := [.ref 0, .int 1, .int x2, .int 3, .int x4, .int x5, .ref 67, .ref 71]) (st' := [.ref 71]) rfl ?_
        refine wp_callV (o := 71) (as := []) (rest := []) (els := [.ref 71]) rfl rfl rfl rfl rfl rfl rfl rfl (by omega) ?_
        refine wp_run 1 (pc' := 1) (ls' := [.ref 71]) (st' := [.ref 71]) rfl ?_
        refine wp_geti (a := 1) (h 71 1) rfl rfl rfl rfl ?_
        refine wp_if rfl (fun (cqz1 : ¬ (h 71 1) = 0) => ?_) (fun (cqz1 : ¬ (¬ (h 71 1) = 0)) => ?_)
        · skip
          refine wp_run 1 (pc' := 12) (ls' := [.ref 71]) (st' := [.int 0]) rfl ?_
          refine wp_retz rfl (Or.inl rfl) ?_
          show am_wp L xs _ _ _ _ 49 [.ref 0, .int 1, .int x2, .int 3, .int x4, .int x5, .ref 67, .ref 71] [.int 0] (am_S b) h _
          refine wp_if_t rfl (show (0 : Int32) = 0 from by decide) ?_
          refine wp_run 1 (pc' := 60) (ls' := [.ref 0, .int 1, .int x2, .int 3, .int x4, .int x5, .ref 67, .ref 71]) (st' := [.ref 67]) rfl ?_
          refine wp_geti (a := 1) (h 67 1) rfl rfl rfl rfl ?_
          refine wp_run 1 (pc' := 65) (ls' := [.ref 0, .int 1, .int x2, .int 3, .int x4, .int x5, .ref 67, .ref 71]) (st' := [.ref 71, .int (h 67 1)]) rfl ?_
          refine wp_geti (a := 1) (h 71 1) rfl rfl rfl rfl ?_
          refine wp_icmp rfl (fun (cqe : (h 67 1) = (h 71 1)) => ?_) (fun (cqe : ¬ ((h 67 1) = (h 71 1))) => ?_)
          · skip
            refine wp_run 3 (pc' := 82) (ls' := [.ref 0, .int 1, .int x2, .int 3, .int x4, .int x5, .ref 67, .ref 71]) (st' := [.int x5, .int x2, .ref 67]) rfl ?_
            refine wp_callV (o := 67) (as := [.int x2, .int x5]) (rest := []) (els := [.ref 67, .int x2, .int x5]) rfl rfl rfl rfl rfl rfl rfl rfl (by omega) ?_
            refine sp_holds (h := h) (o := 67) (l := l) rfl ho2 hl24 (by omega) ?_ ?_
            · skip
              intro k2 k5 e5 e2 hle1
              subst e5
              subst e2
              show am_wp L xs _ _ _ _ 85 [.ref 0, .int 1, .int (nI k2), .int 3, .int x4, .int (nI k5), .ref 67, .ref 71] [.int 1] (am_S b) h _
              refine wp_if_f rfl (show ¬ ((1 : Int32) = 0) from by decide) ?_
              refine wp_run 3 (pc' := 94) (ls' := [.ref 0, .int 1, .int (nI k2), .int 3, .int x4, .int (nI k5), .ref 67, .ref 71]) (st' := [.int (nI k5), .int x4, .ref 71]) rfl ?_
              refine wp_callV (o := 71) (as := [.int x4, .int (nI k5)]) (rest := []) (els := [.ref 71, .int x4, .int (nI k5)]) rfl rfl rfl rfl rfl rfl rfl rfl (by omega) ?_
              refine sp_holds (h := h) (o := 71) (l := lB) rfl ho2B hl24B (by omega) ?_ ?_
              · skip
                intro k4 n4 q1 e4 hle2
                have en := pu_inj (by omega) (by omega) q1
                subst en
                subst e4
                show am_wp L xs _ _ _ _ 97 [.ref 0, .int 1, .int (nI k2), .int 3, .int (nI k4), .int (nI k5), .ref 67, .ref 71] [.int 1] (am_S b) h _
                refine wp_if_t rfl (show ¬ (1 : Int32) = 0 from by decide) ?_
                refine wp_run 1 (pc' := 108) (ls' := [.ref 0, .int 1, .int (nI k2), .int 3, .int (nI k4), .int (nI k5), .ref 67, .ref 71]) (st' := [.ref 67]) rfl ?_
                refine wp_getr 68 rfl rfl rfl ?_
                refine wp_run 2 (pc' := 114) (ls' := [.ref 0, .int 1, .int (nI k2), .int 3, .int (nI k4), .int (nI k5), .ref 67, .ref 71]) (st' := [.ref 71, .int (nI k2), .ref 68]) rfl ?_
                refine wp_getr 72 rfl rfl rfl ?_
                refine wp_run 2 (pc' := 121) (ls' := [.ref 0, .int 1, .int (nI k2), .int 3, .int (nI k4), .int (nI k5), .ref 67, .ref 71]) (st' := [.int (nI k5), .int (nI k4), .ref 72, .int (nI k2), .ref 68]) rfl ?_
                refine wp_copy (q := 68) (o := 72) (sp := k2) (dp := k4) (n := k5) rfl rfl rfl rfl rfl rfl (by omega) (by omega) (by omega) (by omega) rfl (by omega) ?_
                refine wp_run 1 (pc' := 126) (ls' := [.ref 0, .int 1, .int (nI k2), .int 3, .int (nI k4), .int (nI k5), .ref 67, .ref 71]) (st' := [.int (nI k5)]) rfl ?_
                refine wp_ret rfl ?_
                refine kk _ _ _ (fun ms2 Q2 kk2 => ?_)
                refine wp_run 6 (pc' := 8) (ls' := [.ref 74, .int 1, .int (nI k2), .int 3, .int (nI k4), .int (nI k5), am_du, am_du, am_du]) (st' := [.int (nI k5), .int (nI k4), .int 3, .int (nI k2), .int 1, .ref 74]) rfl ?_
                refine wp_callV (o := 74) (as := [.int 1, .int (nI k2), .int 3, .int (nI k4), .int (nI k5)]) (rest := []) (els := [.ref 74, .int 1, .int (nI k2), .int 3, .int (nI k4), .int (nI k5), am_du]) rfl rfl rfl rfl rfl rfl rfl rfl (by omega) ?_
                refine wp_run 1 (pc' := 1) (ls' := [.ref 74, .int 1, .int (nI k2), .int 3, .int (nI k4), .int (nI k5), am_du]) (st' := [.int 1]) rfl ?_
                refine wp_callS (as := [.int 1]) (rest := []) (els := [.int 1]) rfl rfl rfl rfl rfl rfl rfl rfl (by omega) ?_
                refine sp_m_isSheet (by omega) (fun _ _ _ => ?_) (fun q => absurd rfl (q 1 (by omega)))
                show am_wp L xs _ _ _ _ 4 [.ref 74, .int 1, .int (nI k2), .int 3, .int (nI k4), .int (nI k5), am_du] [.int 1] (am_S b) (am_ur h 72 (va_cpy (h 68) (h 72) k2 k4 k5)) _
                refine wp_if_f rfl (show ¬ ((1 : Int32) = 0) from by decide) ?_
                refine wp_run 1 (pc' := 8) (ls' := [.ref 74, .int 1, .int (nI k2), .int 3, .int (nI k4), .int (nI k5), am_du]) (st' := [.int 3]) rfl ?_
                refine wp_callS (as := [.int 3]) (rest := []) (els := [.int 3]) rfl rfl rfl rfl rfl rfl rfl rfl (by omega) ?_
                refine sp_m_isSheet (by omega) (fun _ _ _ => ?_) (fun q => absurd rfl (q 3 (by omega)))
                show am_wp L xs _ _ _ _ 11 [.ref 74, .int 1, .int (nI k2), .int 3, .int (nI k4), .int (nI k5), am_du] [.int 1] (am_S b) (am_ur h 72 (va_cpy (h 68) (h 72) k2 k4 k5)) _
                refine wp_if_t rfl (show ¬ (1 : Int32) = 0 from by decide) ?_
                refine wp_run 1 (pc' := 18) (ls' := [.ref 74, .int 1, .int (nI k2), .int 3, .int (nI k4), .int (nI k5), am_du]) (st' := [.ref 74]) rfl ?_
                refine wp_getr 78 rfl rfl rfl ?_
                refine wp_run 1 (pc' := 22) (ls' := [.ref 74, .int 1, .int (nI k2), .int 3, .int (nI k4), .int (nI k5), am_du]) (st' := [.int 1, .ref 78]) rfl ?_
                refine wp_ald (i := 1) (h 78 1) rfl rfl rfl rfl (by decide) rfl ?_
                refine wp_if_f rfl (show ¬ ((h 78 1) = 0) from (fun q => cqz0 (hob.trans q))) ?_
                refine wp_run 1 (pc' := 27) (ls' := [.ref 74, .int 1, .int (nI k2), .int 3, .int (nI k4), .int (nI k5), am_du]) (st' := [.ref 74]) rfl ?_
                refine wp_getr 78 rfl rfl rfl ?_
                refine wp_run 1 (pc' := 31) (ls' := [.ref 74, .int 1, .int (nI k2), .int 3, .int (nI k4), .int (nI k5), am_du]) (st' := [.int 3, .ref 78]) rfl ?_
                refine wp_ald (i := 3) (h 78 3) rfl rfl rfl rfl (by decide) rfl ?_
                refine wp_if_t rfl (show ¬ (h 78 3) = 0 from (fun q => cqz1 (hobB.trans q))) ?_
                refine wp_run 1 (pc' := 39) (ls' := [.ref 74, .int 1, .int (nI k2), .int 3, .int (nI k4), .int (nI k5), am_du]) (st' := [.ref 74]) rfl ?_
                refine wp_getr 78 rfl rfl rfl ?_
                refine wp_run 1 (pc' := 43) (ls' := [.ref 74, .int 1, .int (nI k2), .int 3, .int (nI k4), .int (nI k5), am_du]) (st' := [.int 1, .ref 78]) rfl ?_
                refine wp_ald (i := 1) (h 78 1) rfl rfl rfl rfl (by decide) rfl ?_
                refine wp_run 1 (pc' := 45) (ls' := [.ref 74, .int 1, .int (nI k2), .int 3, .int (nI k4), .int (nI k5), am_du]) (st' := [.ref 74, .int (h 78 1)]) rfl ?_
                refine wp_getr 78 rfl rfl rfl ?_
                refine wp_run 1 (pc' := 49) (ls' := [.ref 74, .int 1, .int (nI k2), .int 3, .int (nI k4), .int (nI k5), am_du]) (st' := [.int 3, .ref 78, .int (h 78 1)]) rfl ?_
                refine wp_ald (i := 3) (h 78 3) rfl rfl rfl rfl (by decide) rfl ?_
                refine wp_icmp_t rfl (show (h 78 1) = (h 78 3) from (hob.symm.trans (cqe.trans hobB))) ?_
                refine wp_run 1 (pc' := 58) (ls' := [.ref 74, .int 1, .int (nI k2), .int 3, .int (nI k4), .int (nI k5), am_du]) (st' := [.int (nI k5)]) rfl ?_
                refine wp_if_f rfl (show ¬ ((nI k5) < 0) from mt (nI_ltI (a := k5) (b := 0) (by omega) (by omega)).mp (by omega)) ?_
                refine wp_run 1 (pc' := 62) (ls' := [.ref 74, .int 1, .int (nI k2), .int 3, .int (nI k4), .int (nI k5), am_du]) (st' := [.int (nI k2)]) rfl ?_
                refine wp_if_f rfl (show ¬ ((nI k2) < 0) from mt (nI_ltI (a := k2) (b := 0) (by omega) (by omega)).mp (by omega)) ?_
                refine wp_run 1 (pc' := 67) (ls' := [.ref 74, .int 1, .int (nI k2), .int 3, .int (nI k4), .int (nI k5), am_du]) (st' := [.int (nI k4)]) rfl ?_
                refine wp_if_f rfl (show ¬ ((nI k4) < 0) from mt (nI_ltI (a := k4) (b := 0) (by omega) (by omega)).mp (by omega)) ?_
                refine wp_run 2 (pc' := 73) (ls' := [.ref 74, .int 1, .int (nI k2), .int 3, .int (nI k4), .int (nI k5), am_du]) (st' := [.ref 74, .int (nI k5)]) rfl ?_
                refine wp_getr 79 rfl rfl rfl ?_
                refine wp_run 1 (pc' := 77) (ls' := [.ref 74, .int 1, .int (nI k2), .int 3, .int (nI k4), .int (nI k5), am_du]) (st' := [.int 1, .ref 79, .int (nI k5)]) rfl ?_
                refine wp_ald (i := 1) (nI l) hz2 rfl rfl rfl (by decide) rfl ?_
                refine wp_run 2 (pc' := 80) (ls' := [.ref 74, .int 1, .int (nI k2), .int 3, .int (nI k4), .int (nI k5), am_du]) (st' := [.int ((nI l) - (nI k2)), .int (nI k5)]) rfl ?_
                refine wp_icmp_f rfl (show ¬ (((nI l) - (nI k2)) < (nI k5)) from Int32.not_lt.mpr ((pu_suble (by omega) (by omega) hl24).mpr (by omega))) ?_
                refine wp_run 2 (pc' := 86) (ls' := [.ref 74, .int 1, .int (nI k2), .int 3, .int (nI k4), .int (nI k5), am_du]) (st' := [.ref 74, .int (nI k5)]) rfl ?_
                refine wp_getr 79 rfl rfl rfl ?_
                refine wp_run 1 (pc' := 90) (ls' := [.ref 74, .int 1, .int (nI k2), .int 3, .int (nI k4), .int (nI k5), am_du]) (st' := [.int 3, .ref 79, .int (nI k5)]) rfl ?_
                refine wp_ald (i := 3) (nI lB) hz2B rfl rfl rfl (by decide) rfl ?_
                refine wp_run 2 (pc' := 94) (ls' := [.ref 74, .int 1, .int (nI k2), .int 3, .int (nI k4), .int (nI k5), am_du]) (st' := [.int ((nI lB) - (nI k4)), .int (nI k5)]) rfl ?_
                refine wp_icmp_f rfl (show ¬ (((nI lB) - (nI k4)) < (nI k5)) from Int32.not_lt.mpr ((pu_suble (by omega) (by omega) hl24B).mpr (by omega))) ?_
                refine wp_run 4 (pc' := 106) (ls' := [.ref 74, .int 1, .int (nI k2), .int 3, .int (nI k4), .int (nI k5), .int 1]) (st' := [.int 1]) rfl ?_
                refine wp_if_f rfl (show ¬ ((1 : Int32) = 0) from by decide) ?_
                refine wp_run 2 (pc' := 115) (ls' := [.ref 74, .int 1, .int (nI k2), .int 3, .int (nI k4), .int (nI k5), .int 1]) (st' := [.int 0]) rfl ?_
                refine wp_ret rfl ?_
                show am_wp L xs _ _ _ _ 11 [.ref 74, .int 1, .int (nI k2), .int 3, .int (nI k4), .int (nI k5), am_du, am_du, am_du] [.int 0] (am_S b) (am_ur h 72 (va_cpy (h 68) (h 72) k2 k4 k5)) _
                refine wp_run 2 (pc' := 15) (ls' := [.ref 74, .int 1, .int (nI k2), .int 3, .int (nI k4), .int (nI k5), .int 0, am_du, am_du]) (st' := [.int 0]) rfl ?_
                refine wp_if_t rfl (show (0 : Int32) = 0 from by decide) ?_
                refine wp_run 2 (pc' := 28) (ls' := [.ref 74, .int 1, .int (nI k2), .int 3, .int (nI k4), .int (nI k5), .int 0, .int 0, am_du]) (st' := []) rfl ?_
                by_cases hij : k2 < k4
                · have hp := lp_mvd (L := L) (xs := xs) (d := d) (ms := ms2) (b := b) (h := (am_ur h 72 (va_cpy (h 68) (h 72) k2 k4 k5))) (Q := Q2) (s := 1) (o := 3) (i := k2) (j := k4) (n := k5) (by omega) (by omega) (by omega) (by omega) hij (by omega) ?_ k5 0 am_du (by omega)
                  · rw [mv_d0] at hp; exact hp
                  · exact kk2 _ _ ⟨⟨n, c, t, tp, wt, s0, s1, p0, p1, H⟩, re_im_s hI, hE, (re_sh_mo hS0 (by decide) (by omega)), (re_sh_mo hS1 (by decide) (by omega)), (re_sh_mo hS2 (by decide) (by omega)), (re_sh_m hS1 hS3 (by omega) (by omega)), hT⟩
                · have hp := lp_mva (L := L) (xs := xs) (d := d) (ms := ms2) (b := b) (h := (am_ur h 72 (va_cpy (h 68) (h 72) k2 k4 k5))) (Q := Q2) (s := 1) (o := 3) (i := k2) (j := k4) (n := k5) (by omega) (by omega) (by omega) (by omega) hij (by omega) ?_ k5 0 am_du (by omega)
                  · rw [mv_a0] at hp; exact hp
                  · exact kk2 _ _ ⟨⟨n, c, t, tp, wt, s0, s1, p0, p1, H⟩, re_im_s hI, hE, (re_sh_mo hS0 (by decide) (by omega)), (re_sh_mo hS1 (by decide) (by omega)), (re_sh_mo hS2 (by decide) (by omega)), (re_sh_m hS1 hS3 (by omega) (by omega)), hT⟩
              · skip
                intro hno2
                show am_wp L xs _ _ _ _ 97 [.ref 0, .int 1, .int (nI k2), .int 3, .int x4, .int (nI k5), .ref 67, .ref 71] [.int 0] (am_S b) h _
                refine wp_if_f rfl (show ¬ (¬ (0 : Int32) = 0) from by decide) ?_
                refine wp_run 2 (pc' := 102) (ls' := [.ref 0, .int 1, .int (nI k2), .int 3, .int x4, .int (nI k5), .ref 67, .ref 71]) (st' := [.int 1, .ref 0]) rfl ?_
                refine wp_callV (o := 0) (as := [.int 1]) (rest := []) (els := [.ref 0, .int 1]) rfl rfl rfl rfl rfl rfl rfl rfl (by omega) ?_
                refine sp_refuse1 (by omega) ?_
                show am_wp L xs _ _ _ _ 105 [.ref 0, .int 1, .int (nI k2), .int 3, .int x4, .int (nI k5), .ref 67, .ref 71] [.int (-1000000001)] (am_S b) (am_u h 73 1 (h 73 1 + 1)) _
                refine wp_ret rfl ?_
                refine kk _ _ _ (fun ms2 Q2 kk2 => ?_)
                refine wp_run 6 (pc' := 8) (ls' := [.ref 74, .int 1, .int (nI k2), .int 3, .int x4, .int (nI k5), am_du, am_du, am_du]) (st' := [.int (nI k5), .int x4, .int 3, .int (nI k2), .int 1, .ref 74]) rfl ?_
                refine wp_callV (o := 74) (as := [.int 1, .int (nI k2), .int 3, .int x4, .int (nI k5)]) (rest := []) (els := [.ref 74, .int 1, .int (nI k2), .int 3, .int x4, .int (nI k5), am_du]) rfl rfl rfl rfl rfl rfl rfl rfl (by omega) ?_
                refine wp_run 1 (pc' := 1) (ls' := [.ref 74, .int 1, .int (nI k2), .int 3, .int x4, .int (nI k5), am_du]) (st' := [.int 1]) rfl ?_
                refine wp_callS (as := [.int 1]) (rest := []) (els := [.int 1]) rfl rfl rfl rfl rfl rfl rfl rfl (by omega) ?_
                refine sp_m_isSheet (by omega) (fun _ _ _ => ?_) (fun q => absurd rfl (q 1 (by omega)))
                show am_wp L xs _ _ _ _ 4 [.ref 74, .int 1, .int (nI k2), .int 3, .int x4, .int (nI k5), am_du] [.int 1] (am_S b) (am_u h 73 1 (h 73 1 + 1)) _
                refine wp_if_f rfl (show ¬ ((1 : Int32) = 0) from by decide) ?_
                refine wp_run 1 (pc' := 8) (ls' := [.ref 74, .int 1, .int (nI k2), .int 3, .int x4, .int (nI k5), am_du]) (st' := [.int 3]) rfl ?_
                refine wp_callS (as := [.int 3]) (rest := []) (els := [.int 3]) rfl rfl rfl rfl rfl rfl rfl rfl (by omega) ?_
                refine sp_m_isSheet (by omega) (fun _ _ _ => ?_) (fun q => absurd rfl (q 3 (by omega)))
                show am_wp L xs _ _ _ _ 11 [.ref 74, .int 1, .int (nI k2), .int 3, .int x4, .int (nI k5), am_du] [.int 1] (am_S b) (am_u h 73 1 (h 73 1 + 1)) _
                refine wp_if_t rfl (show ¬ (1 : Int32) = 0 from by decide) ?_
                refine wp_run 1 (pc' := 18) (ls' := [.ref 74, .int 1, .int (nI k2), .int 3, .int x4, .int (nI k5), am_du]) (st' := [.ref 74]) rfl ?_
                refine wp_getr 78 rfl rfl rfl ?_
                refine wp_run 1 (pc' := 22) (ls' := [.ref 74, .int 1, .int (nI k2), .int 3, .int x4, .int (nI k5), am_du]) (st' := [.int 1, .ref 78]) rfl ?_
                refine wp_ald (i := 1) (h 78 1) rfl rfl rfl rfl (by decide) rfl ?_
                refine wp_if_f rfl (show ¬ ((h 78 1) = 0) from (fun q => cqz0 (hob.trans q))) ?_
                refine wp_run 1 (pc' := 27) (ls' := [.ref 74, .int 1, .int (nI k2), .int 3, .int x4, .int (nI k5), am_du]) (st' := [.ref 74]) rfl ?_
                refine wp_getr 78 rfl rfl rfl ?_
                refine wp_run 1 (pc' := 31) (ls' := [.ref 74, .int 1, .int (nI k2), .int 3, .int x4, .int (nI k5), am_du]) (st' := [.int 3, .ref 78]) rfl ?_
                refine wp_ald (i := 3) (h 78 3) rfl rfl rfl rfl (by decide) rfl ?_
                refine wp_if_t rfl (show ¬ (h 78 3) = 0 from (fun q => cqz1 (hobB.trans q))) ?_
                refine wp_run 1 (pc' := 39) (ls' := [.ref 74, .int 1, .int (nI k2), .int 3, .int x4, .int (nI k5), am_du]) (st' := [.ref 74]) rfl ?_
                refine wp_getr 78 rfl rfl rfl ?_
                refine wp_run 1 (pc' := 43) (ls' := [.ref 74, .int 1, .int (nI k2), .int 3, .int x4, .int (nI k5), am_du]) (st' := [.int 1, .ref 78]) rfl ?_
                refine wp_ald (i := 1) (h 78 1) rfl rfl rfl rfl (by decide) rfl ?_
                refine wp_run 1 (pc' := 45) (ls' := [.ref 74, .int 1, .int (nI k2), .int 3, .int x4, .int (nI k5), am_du]) (st' := [.ref 74, .int (h 78 1)]) rfl ?_
                refine wp_getr 78 rfl rfl rfl ?_
                refine wp_run 1 (pc' := 49) (ls' := [.ref 74, .int 1, .int (nI k2), .int 3, .int x4, .int (nI k5), am_du]) (st' := [.int 3, .ref 78, .int (h 78 1)]) rfl ?_
                refine wp_ald (i := 3) (h 78 3) rfl rfl rfl rfl (by decide) rfl ?_
                refine wp_icmp_t rfl (show (h 78 1) = (h 78 3) from (hob.symm.trans (cqe.trans hobB))) ?_
                refine wp_run 1 (pc' := 58) (ls' := [.ref 74, .int 1, .int (nI k2), .int 3, .int x4, .int (nI k5), am_du]) (st' := [.int (nI k5)]) rfl ?_
                refine wp_if_f rfl (show ¬ ((nI k5) < 0) from mt (nI_ltI (a := k5) (b := 0) (by omega) (by omega)).mp (by omega)) ?_
                refine wp_run 1 (pc' := 62) (ls' := [.ref 74, .int 1, .int (nI k2), .int 3, .int x4, .int (nI k5), am_du]) (st' := [.int (nI k2)]) rfl ?_
                refine wp_if_f rfl (show ¬ ((nI k2) < 0) from mt (nI_ltI (a := k2) (b := 0) (by omega) (by omega)).mp (by omega)) ?_
                refine wp_run 1 (pc' := 67) (ls' := [.ref 74, .int 1, .int (nI k2), .int 3, .int x4, .int (nI k5), am_du]) (st' := [.int x4]) rfl ?_
                refine wp_if rfl (fun (cq67 : x4 < 0) => ?_) (fun (cq67 : ¬ (x4 < 0)) => ?_)
                · skip
                  refine wp_run 3 (pc' := 106) (ls' := [.ref 74, .int 1, .int (nI k2), .int 3, .int x4, .int (nI k5), .int 0]) (st' := [.int 0]) rfl ?_
                  refine wp_if_t rfl (show (0 : Int32) = 0 from by decide) ?_
                  refine wp_run 1 (pc' := 115) (ls' := [.ref 74, .int 1, .int (nI k2), .int 3, .int x4, .int (nI k5), .int 0]) (st' := [.int (-1000000001)]) rfl ?_
                  refine wp_ret rfl ?_
                  show am_wp L xs _ _ _ _ 11 [.ref 74, .int 1, .int (nI k2), .int 3, .int x4, .int (nI k5), am_du, am_du, am_du] [.int (-1000000001)] (am_S b) (am_u h 73 1 (h 73 1 + 1)) _
                  refine wp_run 2 (pc' := 15) (ls' := [.ref 74, .int 1, .int (nI k2), .int 3, .int x4, .int (nI k5), .int (-1000000001), am_du, am_du]) (st' := [.int (-1000000001)]) rfl ?_
                  refine wp_if_f rfl (show ¬ (((-1000000001) : Int32) = 0) from by decide) ?_
                  refine wp_run 2 (pc' := 21) (ls' := [.ref 74, .int 1, .int (nI k2), .int 3, .int x4, .int (nI k5), .int (-1000000001), am_du, am_du]) (st' := [.int (-1000000001), .ref 74]) rfl ?_
                  refine wp_callV (o := 74) (as := [.int (-1000000001)]) (rest := []) (els := [.ref 74, .int (-1000000001)]) rfl rfl rfl rfl rfl rfl rfl rfl (by omega) ?_
                  refine sp_error1 ?_
                  show am_wp L xs _ _ _ _ 24 [.ref 74, .int 1, .int (nI k2), .int 3, .int x4, .int (nI k5), .int (-1000000001), am_du, am_du] [.int (-1000000001)] (am_S b) (am_u (am_u h 73 1 (h 73 1 + 1)) 77 1 ((am_u h 73 1 (h 73 1 + 1)) 77 1 + 1)) _
                  refine wp_ret rfl ?_
                  exact kk2 _ _ (re_err1 hR)
                · skip
                  obtain ⟨k4, hk4, ek4⟩ := pu_nonneg (Int32.not_lt.mp cq67)
                  subst ek4
                  refine wp_run 2 (pc' := 73) (ls' := [.ref 74, .int 1, .int (nI k2), .int 3, .int (nI k4), .int (nI k5), am_du]) (st' := [.ref 74, .int (nI k5)]) rfl ?_
                  refine wp_getr 79 rfl rfl rfl ?_
                  refine wp_run 1 (pc' := 77) (ls' := [.ref 74, .int 1, .int (nI k2), .int 3, .int (nI k4), .int (nI k5), am_du]) (st' := [.int 1, .ref 79, .int (nI k5)]) rfl ?_
                  refine wp_ald (i := 1) (nI l) hz2 rfl rfl rfl (by decide) rfl ?_
                  refine wp_run 2 (pc' := 80) (ls' := [.ref 74, .int 1, .int (nI k2), .int 3, .int (nI k4), .int (nI k5), am_du]) (st' := [.int ((nI l) - (nI k2)), .int (nI k5)]) rfl ?_
                  refine wp_icmp_f rfl (show ¬ (((nI l) - (nI k2)) < (nI k5)) from Int32.not_lt.mpr ((pu_suble (by omega) (by omega) hl24).mpr (by omega))) ?_
                  refine wp_run 2 (pc' := 86) (ls' := [.ref 74, .int 1, .int (nI k2), .int 3, .int (nI k4), .int (nI k5), am_du]) (st' := [.ref 74, .int (nI k5)]) rfl ?_
                  refine wp_getr 79 rfl rfl rfl ?_
                  refine wp_run 1 (pc' := 90) (ls' := [.ref 74, .int 1, .int (nI k2), .int 3, .int (nI k4), .int (nI k5), am_du]) (st' := [.int 3, .ref 79, .int (nI k5)]) rfl ?_
                  refine wp_ald (i := 3) (nI lB) hz2B rfl rfl rfl (by decide) rfl ?_
                  refine wp_run 2 (pc' := 94) (ls' := [.ref 74, .int 1, .int (nI k2), .int 3, .int (nI k4), .int (nI k5), am_du]) (st' := [.int ((nI lB) - (nI k4)), .int (nI k5)]) rfl ?_
                  refine wp_icmp_t rfl (show ((nI lB) - (nI k4)) < (nI k5) from Int32.not_le.mp (fun q => hno2 k4 k5 rfl rfl (by have := (pu_suble (by omega) (by omega) hl24B).mp q; omega))) ?_
                  refine wp_run 3 (pc' := 106) (ls' := [.ref 74, .int 1, .int (nI k2), .int 3, .int (nI k4), .int (nI k5), .int 0]) (st' := [.int 0]) rfl ?_
                  refine wp_if_t rfl (show (0 : Int32) = 0 from by decide) ?_
                  refine wp_run 1 (pc' := 115) (ls' := [.ref 74, .int 1, .int (nI k2), .int 3, .int (nI k4), .int (nI k5), .int 0]) (st' := [.int (-1000000001)]) rfl ?_
                  refine wp_ret rfl ?_
                  show am_wp L xs _ _ _ _ 11 [.ref 74, .int 1, .int (nI k2), .int 3, .int (nI k4), .int (nI k5), am_du, am_du, am_du] [.int (-1000000001)] (am_S b) (am_u h 73 1 (h 73 1 + 1)) _
                  refine wp_run 2 (pc' := 15) (ls' := [.ref 74, .int 1, .int (nI k2), .int 3, .int (nI k4), .int (nI k5), .int (-1000000001), am_du, am_du]) (st' := [.int (-1000000001)]) rfl ?_
                  refine wp_if_f rfl (show ¬ (((-1000000001) : Int32) = 0) from by decide) ?_
                  refine wp_run 2 (pc' := 21) (ls' := [.ref 74, .int 1, .int (nI k2), .int 3, .int (nI k4), .int (nI k5), .int (-1000000001), am_du, am_du]) (st' := [.int (-1000000001), .ref 74]) rfl ?_
                  refine wp_callV (o := 74) (as := [.int (-1000000001)]) (rest := []) (els := [.ref 74, .int (-1000000001)]) rfl rfl rfl rfl rfl rfl rfl rfl (by omega) ?_
                  refine sp_error1 ?_
                  show am_wp L xs _ _ _ _ 24 [.ref 74, .int 1, .int (nI k2), .int 3, .int (nI k4), .int (nI k5), .int (-1000000001), am_du, am_du] [.int (-1000000001)] (am_S b) (am_u (am_u h 73 1 (h 73 1 + 1)) 77 1 ((am_u h 73 1 (h 73 1 + 1)) 77 1 + 1)) _
                  refine wp_ret rfl ?_
                  exact kk2 _ _ (re_err1 hR)
            · skip
              intro hno1
              show am_wp L xs _ _ _ _ 85 [.ref 0, .int 1, .int x2, .int 3, .int x4, .int x5, .ref 67, .ref 71] [.int 0] (am_S b) h _
              refine wp_if_t rfl (show (0 : Int32) = 0 from by decide) ?_
              refine wp_run 2 (pc' := 102) (ls' := [.ref 0, .int 1, .int x2, .int 3, .int x4, .int x5, .ref 67, .ref 71]) (st' := [.int 1, .ref 0]) rfl ?_
              refine wp_callV (o := 0) (as := [.int 1]) (rest := []) (els := [.ref 0, .int 1]) rfl rfl rfl rfl rfl rfl rfl rfl (by omega) ?_
              refine sp_refuse1 (by omega) ?_
              show am_wp L xs _ _ _ _ 105 [.ref 0, .int 1, .int x2, .int 3, .int x4, .int x5, .ref 67, .ref 71] [.int (-1000000001)] (am_S b) (am_u h 73 1 (h 73 1 + 1)) _
              refine wp_ret rfl ?_
              refine kk _ _ _ (fun ms2 Q2 kk2 => ?_)
              refine wp_run 6 (pc' := 8) (ls' := [.ref 74, .int 1, .int x2, .int 3, .int x4, .int x5, am_du, am_du, am_du]) (st' := [.int x5, .int x4, .int 3, .int x2, .int 1, .ref 74]) rfl ?_
              refine wp_callV (o := 74) (as := [.int 1, .int x2, .int 3, .int x4, .int x5]) (rest := []) (els := [.ref 74, .int 1, .int x2, .int 3, .int x4, .int x5, am_du]) rfl rfl rfl rfl rfl rfl rfl rfl (by omega) ?_
              refine wp_run 1 (pc' := 1) (ls' := [.ref 74, .int 1, .int x2, .int 3, .int x4, .int x5, am_du]) (st' := [.int 1]) rfl ?_
              refine wp_callS (as := [.int 1]) (rest := []) (els := [.int 1]) rfl rfl rfl rfl rfl rfl rfl rfl (by omega) ?_
              refine sp_m_isSheet (by omega) (fun _ _ _ => ?_) (fun q => absurd rfl (q 1 (by omega)))
              show am_wp L xs _ _ _ _ 4 [.ref 74, .int 1, .int x2, .int 3, .int x4, .int x5, am_du] [.int 1] (am_S b) (am_u h 73 1 (h 73 1 + 1)) _
              refine wp_if_f rfl (show ¬ ((1 : Int32) = 0) from by decide) ?_
              refine wp_run 1 (pc' := 8) (ls' := [.ref 74, .int 1, .int x2, .int 3, .int x4, .int x5, am_du]) (st' := [.int 3]) rfl ?_
              refine wp_callS (as := [.int 3]) (rest := []) (els := [.int 3]) rfl rfl rfl rfl rfl rfl rfl rfl (by omega) ?_
              refine sp_m_isSheet (by omega) (fun _ _ _ => ?_) (fun q => absurd rfl (q 3 (by omega)))
              show am_wp L xs _ _ _ _ 11 [.ref 74, .int 1, .int x2, .int 3, .int x4, .int x5, am_du] [.int 1] (am_S b) (am_u h 73 1 (h 73 1 + 1)) _
              refine wp_if_t rfl (show ¬ (1 : Int32) = 0 from by decide) ?_
              refine wp_run 1 (pc' := 18) (ls' := [.ref 74, .int 1, .int x2, .int 3, .int x4, .int x5, am_du]) (st' := [.ref 74]) rfl ?_
              refine wp_getr 78 rfl rfl rfl ?_
              refine wp_run 1 (pc' := 22) (ls' := [.ref 74, .int 1, .int x2, .int 3, .int x4, .int x5, am_du]) (st' := [.int 1, .ref 78]) rfl ?_
              refine wp_ald (i := 1) (h 78 1) rfl rfl rfl rfl (by decide) rfl ?_
              refine wp_if_f rfl (show ¬ ((h 78 1) = 0) from (fun q => cqz0 (hob.trans q))) ?_
              refine wp_run 1 (pc' := 27) (ls' := [.ref 74, .int 1, .int x2, .int 3, .int x4, .int x5, am_du]) (st' := [.ref 74]) rfl ?_
              refine wp_getr 78 rfl rfl rfl ?_
              refine wp_run 1 (pc' := 31) (ls' := [.ref 74, .int 1, .int x2, .int 3, .int x4, .int x5, am_du]) (st' := [.int 3, .ref 78]) rfl ?_
              refine wp_ald (i := 3) (h 78 3) rfl rfl rfl rfl (by decide) rfl ?_
              refine wp_if_t rfl (show ¬ (h 78 3) = 0 from (fun q => cqz1 (hobB.trans q))) ?_
              refine wp_run 1 (pc' := 39) (ls' := [.ref 74, .int 1, .int x2, .int 3, .int x4, .int x5, am_du]) (st' := [.ref 74]) rfl ?_
              refine wp_getr 78 rfl rfl rfl ?_
              refine wp_run 1 (pc' := 43) (ls' := [.ref 74, .int 1, .int x2, .int 3, .int x4, .int x5, am_du]) (st' := [.int 1, .ref 78]) rfl ?_
              refine wp_ald (i := 1) (h 78 1) rfl rfl rfl rfl (by decide) rfl ?_
              refine wp_run 1 (pc' := 45) (ls' := [.ref 74, .int 1, .int x2, .int 3, .int x4, .int x5, am_du]) (st' := [.ref 74, .int (h 78 1)]) rfl ?_
              refine wp_getr 78 rfl rfl rfl ?_
              refine wp_run 1 (pc' := 49) (ls' := [.ref 74, .int 1, .int x2, .int 3, .int x4, .int x5, am_du]) (st' := [.int 3, .ref 78, .int (h 78 1)]) rfl ?_
              refine wp_ald (i := 3) (h 78 3) rfl rfl rfl rfl (by decide) rfl ?_
              refine wp_icmp_t rfl (show (h 78 1) = (h 78 3) from (hob.symm.trans (cqe.trans hobB))) ?_
              refine wp_run 1 (pc' := 58) (ls' := [.ref 74, .int 1, .int x2, .int 3, .int x4, .int x5, am_du]) (st' := [.int x5]) rfl ?_
              refine wp_if rfl (fun (cq58 : x5 < 0) => ?_) (fun (cq58 : ¬ (x5 < 0)) => ?_)
              · skip
                refine wp_run 3 (pc' := 106) (ls' := [.ref 74, .int 1, .int x2, .int 3, .int x4, .int x5, .int 0]) (st' := [.int 0]) rfl ?_
                refine wp_if_t rfl (show (0 : Int32) = 0 from by decide) ?_
                refine wp_run 1 (pc' := 115) (ls' := [.ref 74, .int 1, .int x2, .int 3, .int x4, .int x5, .int 0]) (st' := [.int (-1000000001)]) rfl ?_
                refine wp_ret rfl ?_
                show am_wp L xs _ _ _ _ 11 [.ref 74, .int 1, .int x2, .int 3, .int x4, .int x5, am_du, am_du, am_du] [.int (-1000000001)] (am_S b) (am_u h 73 1 (h 73 1 + 1)) _
                refine wp_run 2 (pc' := 15) (ls' := [.ref 74, .int 1, .int x2, .int 3, .int x4, .int x5, .int (-1000000001), am_du, am_du]) (st' := [.int (-1000000001)]) rfl ?_
                refine wp_if_f rfl (show ¬ (((-1000000001) : Int32) = 0) from by decide) ?_
                refine wp_run 2 (pc' := 21) (ls' := [.ref 74, .int 1, .int x2, .int 3, .int x4, .int x5, .int (-1000000001), am_du, am_du]) (st' := [.int (-1000000001), .ref 74]) rfl ?_
                refine wp_callV (o := 74) (as := [.int (-1000000001)]) (rest := []) (els := [.ref 74, .int (-1000000001)]) rfl rfl rfl rfl rfl rfl rfl rfl (by omega) ?_
                refine sp_error1 ?_
                show am_wp L xs _ _ _ _ 24 [.ref 74, .int 1, .int x2, .int 3, .int x4, .int x5, .int (-1000000001), am_du, am_du] [.int (-1000000001)] (am_S b) (am_u (am_u h 73 1 (h 73 1 + 1)) 77 1 ((am_u h 73 1 (h 73 1 + 1)) 77 1 + 1)) _
                refine wp_ret rfl ?_
                exact kk2 _ _ (re_err1 hR)
              · skip
                obtain ⟨k5, hk5, ek5⟩ := pu_nonneg (Int32.not_lt.mp cq58)
                subst ek5
                refine wp_run 1 (pc' := 62) (ls' := [.ref 74, .int 1, .int x2, .int 3, .int x4, .int (nI k5), am_du]) (st' := [.int x2]) rfl ?_
                refine wp_if rfl (fun (cq62 : x2 < 0) => ?_) (fun (cq62 : ¬ (x2 < 0)) => ?_)
                · skip
                  refine wp_run 3 (pc' := 106) (ls' := [.ref 74, .int 1, .int x2, .int 3, .int x4, .int (nI k5), .int 0]) (st' := [.int 0]) rfl ?_
                  refine wp_if_t rfl (show (0 : Int32) = 0 from by decide) ?_
                  refine wp_run 1 (pc' := 115) (ls' := [.ref 74, .int 1, .int x2, .int 3, .int x4, .int (nI k5), .int 0]) (st' := [.int (-1000000001)]) rfl ?_
                  refine wp_ret rfl ?_
                  show am_wp L xs _ _ _ _ 11 [.ref 74, .int 1, .int x2, .int 3, .int x4, .int (nI k5), am_du, am_du, am_du] [.int (-1000000001)] (am_S b) (am_u h 73 1 (h 73 1 + 1)) _
                  refine wp_run 2 (pc' := 15) (ls' := [.ref 74, .int 1, .int x2, .int 3, .int x4, .int (nI k5), .int (-1000000001), am_du, am_du]) (st' := [.int (-1000000001)]) rfl ?_
                  refine wp_if_f rfl (show ¬ (((-1000000001) : Int32) = 0) from by decide) ?_
                  refine wp_run 2 (pc' := 21) (ls' := [.ref 74, .int 1, .int x2, .int 3, .int x4, .int (nI k5), .int (-1000000001), am_du, am_du]) (st' := [.int (-1000000001), .ref 74]) rfl ?_
                  refine wp_callV (o := 74) (as := [.int (-1000000001)]) (rest := []) (els := [.ref 74, .int (-1000000001)]) rfl rfl rfl rfl rfl rfl rfl rfl (by omega) ?_
                  refine sp_error1 ?_
                  show am_wp L xs _ _ _ _ 24 [.ref 74, .int 1, .int x2, .int 3, .int x4, .int (nI k5), .int (-1000000001), am_du, am_du] [.int (-1000000001)] (am_S b) (am_u (am_u h 73 1 (h 73 1 + 1)) 77 1 ((am_u h 73 1 (h 73 1 + 1)) 77 1 + 1)) _
                  refine wp_ret rfl ?_
                  exact kk2 _ _ (re_err1 hR)
                · skip
                  obtain ⟨k2, hk2, ek2⟩ := pu_nonneg (Int32.not_lt.mp cq62)
                  subst ek2
                  refine wp_run 1 (pc' := 67) (ls' := [.ref 74, .int 1, .int (nI k2), .int 3, .int x4, .int (nI k5), am_du]) (st' := [.int x4]) rfl ?_
                  refine wp_if rfl (fun (cq67 : x4 < 0) => ?_) (fun (cq67 : ¬ (x4 < 0)) => ?_)
                  · skip
                    refine wp_run 3 (pc' := 106) (ls' := [.ref 74, .int 1, .int (nI k2), .int 3, .int x4, .int (nI k5), .int 0]) (st' := [.int 0]) rfl ?_
                    refine wp_if_t rfl (show (0 : Int32) = 0 from by decide) ?_
                    refine wp_run 1 (pc' := 115) (ls' := [.ref 74, .int 1, .int (nI k2), .int 3, .int x4, .int (nI k5), .int 0]) (st' := [.int (-1000000001)]) rfl ?_
                    refine wp_ret rfl ?_
                    show am_wp L xs _ _ _ _ 11 [.ref 74, .int 1, .int (nI k2), .int 3, .int x4, .int (nI k5), am_du, am_du, am_du] [.int (-1000000001)] (am_S b) (am_u h 73 1 (h 73 1 + 1)) _
                    refine wp_run 2 (pc' := 15) (ls' := [.ref 74, .int 1, .int (nI k2), .int 3, .int x4, .int (nI k5), .int (-1000000001), am_du, am_du]) (st' := [.int (-1000000001)]) rfl ?_
                    refine wp_if_f rfl (show ¬ (((-1000000001) : Int32) = 0) from by decide) ?_
                    refine wp_run 2 (pc' := 21) (ls' := [.ref 74, .int 1, .int (nI k2), .int 3, .int x4, .int (nI k5), .int (-1000000001), am_du, am_du]) (st' := [.int (-1000000001), .ref 74]) rfl ?_
                    refine wp_callV (o := 74) (as := [.int (-1000000001)]) (rest := []) (els := [.ref 74, .int (-1000000001)]) rfl rfl rfl rfl rfl rfl rfl rfl (by omega) ?_
                    refine sp_error1 ?_
                    show am_wp L xs _ _ _ _ 24 [.ref 74, .int 1, .int (nI k2), .int 3, .int x4, .int (nI k5), .int (-1000000001), am_du, am_du] [.int (-1000000001)] (am_S b) (am_u (am_u h 73 1 (h 73 1 + 1)) 77 1 ((am_u h 73 1 (h 73 1 + 1)) 77 1 + 1)) _
                    refine wp_ret rfl ?_
                    exact kk2 _ _ (re_err1 hR)
                  · skip
                    obtain ⟨k4, hk4, ek4⟩ := pu_nonneg (Int32.not_lt.mp cq67)
                    subst ek4
                    refine wp_run 2 (pc' := 73) (ls' := [.ref 74, .int 1, .int (nI k2), .int 3, .int (nI k4), .int (nI k5), am_du]) (st' := [.ref 74, .int (nI k5)]) rfl ?_
                    refine wp_getr 79 rfl rfl rfl ?_
                    refine wp_run 1 (pc' := 77) (ls' := [.ref 74, .int 1, .int (nI k2), .int 3, .int (nI k4), .int (nI k5), am_du]) (st' := [.int 1, .ref 79, .int (nI k5)]) rfl ?_
                    refine wp_ald (i := 1) (nI l) hz2 rfl rfl rfl (by decide) rfl ?_
                    refine wp_run 2 (pc' := 80) (ls' := [.ref 74, .int 1, .int (nI k2), .int 3, .int (nI k4), .int (nI k5), am_du]) (st' := [.int ((nI l) - (nI k2)), .int (nI k5)]) rfl ?_
                    refine wp_icmp_t rfl (show ((nI l) - (nI k2)) < (nI k5) from Int32.not_le.mp (fun q => hno1 k2 k5 rfl rfl (by have := (pu_suble (by omega) (by omega) hl24).mp q; omega))) ?_
                    refine wp_run 3 (pc' := 106) (ls' := [.ref 74, .int 1, .int (nI k2), .int 3, .int (nI k4), .int (nI k5), .int 0]) (st' := [.int 0]) rfl ?_
                    refine wp_if_t rfl (show (0 : Int32) = 0 from by decide) ?_
                    refine wp_run 1 (pc' := 115) (ls' := [.ref 74, .int 1, .int (nI k2), .int 3, .int (nI k4), .int (nI k5), .int 0]) (st' := [.int (-1000000001)]) rfl ?_
                    refine wp_ret rfl ?_
                    show am_wp L xs _ _ _ _ 11 [.ref 74, .int 1, .int (nI k2), .int 3, .int (nI k4), .int (nI k5), am_du, am_du, am_du] [.int (-1000000001)] (am_S b) (am_u h 73 1 (h 73 1 + 1)) _
                    refine wp_run 2 (pc' := 15) (ls' := [.ref 74, .int 1, .int (nI k2), .int 3, .int (nI k4), .int (nI k5), .int (-1000000001), am_du, am_du]) (st' := [.int (-1000000001)]) rfl ?_
                    refine wp_if_f rfl (show ¬ (((-1000000001) : Int32) = 0) from by decide) ?_
                    refine wp_run 2 (pc' := 21) (ls' := [.ref 74, .int 1, .int (nI k2), .int 3, .int (nI k4), .int (nI k5), .int (-1000000001), am_du, am_du]) (st' := [.int (-1000000001), .ref 74]) rfl ?_
                    refine wp_callV (o := 74) (as := [.int (-1000000001)]) (rest := []) (els := [.ref 74, .int (-1000000001)]) rfl rfl rfl rfl rfl rfl rfl rfl (by omega) ?_
                    refine sp_error1 ?_
                    show am_wp L xs _ _ _ _ 24 [.ref 74, .int 1, .int (nI k2), .int 3, .int (nI k4), .int (nI k5), .int (-1000000001), am_du, am_du] [.int (-1000000001)] (am_S b) (am_u (am_u h 73 1 (h 73 1 + 1)) 77 1 ((am_u h 73 1 (h 73 1 + 1)) 77 1 + 1)) _
                    refine wp_ret rfl ?_
                    exact kk2 _ _ (re_err1 hR)
          · skip
            refine wp_run 2 (pc' := 73) (ls' := [.ref 0, .int 1, .int x2, .int 3, .int x4, .int x5, .ref 67, .ref 71]) (st' := [.int 5, .ref 0]) rfl ?_
            refine wp_callV (o := 0) (as := [.int 5]) (rest := []) (els := [.ref 0, .int 5]) rfl rfl rfl rfl rfl rfl rfl rfl (by omega) ?_
            refine sp_refuse5 (by omega) ?_
            show am_wp L xs _ _ _ _ 76 [.ref 0, .int 1, .int x2, .int 3, .int x4, .int x5, .ref 67, .ref 71] [.int (-1000000005)] (am_S b) (am_u h 73 5 (h 73 5 + 1)) _
            refine wp_ret rfl ?_
            refine kk _ _ _ (fun ms2 Q2 kk2 => ?_)
            refine wp_run 6 (pc' := 8) (ls' := [.ref 74, .int 1, .int x2, .int 3, .int x4, .int x5, am_du, am_du, am_du]) (st' := [.int x5, .int x4, .int 3, .int x2, .int 1, .ref 74]) rfl ?_
            refine wp_callV (o := 74) (as := [.int 1, .int x2, .int 3, .int x4, .int x5]) (rest := []) (els := [.ref 74, .int 1, .int x2, .int 3, .int x4, .int x5, am_du]) rfl rfl rfl rfl rfl rfl rfl rfl (by omega) ?_
            refine wp_run 1 (pc' := 1) (ls' := [.ref 74, .int 1, .int x2, .int 3, .int x4, .int x5, am_du]) (st' := [.int 1]) rfl ?_
            refine wp_callS (as := [.int 1]) (rest := []) (els := [.int 1]) rfl rfl rfl rfl rfl rfl rfl rfl (by omega) ?_
            refine sp_m_isSheet (by omega) (fun _ _ _ => ?_) (fun q => absurd rfl (q 1 (by omega)))
            show am_wp L xs _ _ _ _ 4 [.ref 74, .int 1, .int x2, .int 3, .int x4, .int x5, am_du] [.int 1] (am_S b) (am_u h 73 5 (h 73 5 + 1)) _
            refine wp_if_f rfl (show ¬ ((1 : Int32) = 0) from by decide) ?_
            refine wp_run 1 (pc' := 8) (ls' := [.ref 74, .int 1, .int x2, .int 3, .int x4, .int x5, am_du]) (st' := [.int 3]) rfl ?_
            refine wp_callS (as := [.int 3]) (rest := []) (els := [.int 3]) rfl rfl rfl rfl rfl rfl rfl rfl (by omega) ?_
            refine sp_m_isSheet (by omega) (fun _ _ _ => ?_) (fun q => absurd rfl (q 3 (by omega)))
            show am_wp L xs _ _ _ _ 11 [.ref 74, .int 1, .int x2, .int 3, .int x4, .int x5, am_du] [.int 1] (am_S b) (am_u h 73 5 (h 73 5 + 1)) _
            refine wp_if_t rfl (show ¬ (1 : Int32) = 0 from by decide) ?_
            refine wp_run 1 (pc' := 18) (ls' := [.ref 74, .int 1, .int x2, .int 3, .int x4, .int x5, am_du]) (st' := [.ref 74]) rfl ?_
            refine wp_getr 78 rfl rfl rfl ?_
            refine wp_run 1 (pc' := 22) (ls' := [.ref 74, .int 1, .int x2, .int 3, .int x4, .int x5, am_du]) (st' := [.int 1, .ref 78]) rfl ?_
            refine wp_ald (i := 1) (h 78 1) rfl rfl rfl rfl (by decide) rfl ?_
            refine wp_if_f rfl (show ¬ ((h 78 1) = 0) from (fun q => cqz0 (hob.trans q))) ?_
            refine wp_run 1 (pc' := 27) (ls' := [.ref 74, .int 1, .int x2, .int 3, .int x4, .int x5, am_du]) (st' := [.ref 74]) rfl ?_
            refine wp_getr 78 rfl rfl rfl ?_
            refine wp_run 1 (pc' := 31) (ls' := [.ref 74, .int 1, .int x2, .int 3, .int x4, .int x5, am_du]) (st' := [.int 3, .ref 78]) rfl ?_
            refine wp_ald (i := 3) (h 78 3) rfl rfl rfl rfl (by decide) rfl ?_
            refine wp_if_t rfl (show ¬ (h 78 3) = 0 from (fun q => cqz1 (hobB.trans q))) ?_
            refine wp_run 1 (pc' := 39) (ls' := [.ref 74, .int 1, .int x2, .int 3, .int x4, .int x5, am_du]) (st' := [.ref 74]) rfl ?_
            refine wp_getr 78 rfl rfl rfl ?_
            refine wp_run 1 (pc' := 43) (ls' := [.ref 74, .int 1, .int x2, .int 3, .int x4, .int x5, am_du]) (st' := [.int 1, .ref 78]) rfl ?_
            refine wp_ald (i := 1) (h 78 1) rfl rfl rfl rfl (by decide) rfl ?_
            refine wp_run 1 (pc' := 45) (ls' := [.ref 74, .int 1, .int x2, .int 3, .int x4, .int x5, am_du]) (st' := [.ref 74, .int (h 78 1)]) rfl ?_
            refine wp_getr 78 rfl rfl rfl ?_
            refine wp_run 1 (pc' := 49) (ls' := [.ref 74, .int 1, .int x2, .int 3, .int x4, .int x5, am_du]) (st' := [.int 3, .ref 78, .int (h 78 1)]) rfl ?_
            refine wp_ald (i := 3) (h 78 3) rfl rfl rfl rfl (by decide) rfl ?_
            refine wp_icmp_f rfl (show ¬ ((h 78 1) = (h 78 3)) from (fun q => cqe (hob.trans (q.trans hobB.symm)))) ?_
            refine wp_run 1 (pc' := 55) (ls' := [.ref 74, .int 1, .int x2, .int 3, .int x4, .int x5, am_du]) (st' := [.int (-1000000005)]) rfl ?_
            refine wp_ret rfl ?_
            show am_wp L xs _ _ _ _ 11 [.ref 74, .int 1, .int x2, .int 3, .int x4, .int x5, am_du, am_du, am_du] [.int (-1000000005)] (am_S b) (am_u h 73 5 (h 73 5 + 1)) _
            refine wp_run 2 (pc' := 15) (ls' := [.ref 74, .int 1, .int x2, .int 3, .int x4, .int x5, .int (-1000000005), am_du, am_du]) (st' := [.int (-1000000005)]) rfl ?_
            refine wp_if_f rfl (show ¬ (((-1000000005) : Int32) = 0) from by decide) ?_
            refine wp_run 2 (pc' := 21) (ls' := [.ref 74, .int 1, .int x2, .int 3, .int x4, .int x5, .int (-1000000005), am_du, am_du]) (st' := [.int (-1000000005), .ref 74]) rfl ?_
            refine wp_callV (o := 74) (as := [.int (-1000000005)]) (rest := []) (els := [.ref 74, .int (-1000000005)]) rfl rfl rfl rfl rfl rfl rfl rfl (by omega) ?_
            refine sp_error5 ?_
            show am_wp L xs _ _ _ _ 24 [.ref 74, .int 1, .int x2, .int 3, .int x4, .int x5, .int (-1000000005), am_du, am_du] [.int (-1000000005)] (am_S b) (am_u (am_u h 73 5 (h 73 5 + 1)) 77 5 ((am_u h 73 5 (h 73 5 + 1)) 77 5 + 1)) _
            refine wp_ret rfl ?_
            exact kk2 _ _ (re_err5 hR)
        · skip
          replace cqz1 := Decidable.not_not.mp cqz1
          refine wp_run 2 (pc' := 12) (ls' := [.ref 71]) (st' := [.int 1]) rfl ?_
          refine wp_retz rfl (Or.inr rfl) ?_
          show am_wp L xs _ _ _ _ 49 [.ref 0, .int 1, .int x2, .int 3, .int x4, .int x5, .ref 67, .ref 71] [.int 1] (am_S b) h _
          refine wp_if_f rfl (show ¬ ((1 : Int32) = 0) from by decide) ?_
          refine wp_run 2 (pc' := 54) (ls' := [.ref 0, .int 1, .int x2, .int 3, .int x4, .int x5, .ref 67, .ref 71]) (st' := [.int 2, .ref 0]) rfl ?_
          refine wp_callV (o := 0) (as := [.int 2]) (rest := []) (els := [.ref 0, .int 2]) rfl rfl rfl rfl rfl rfl rfl rfl (by omega) ?_
          refine sp_refuse2 (by omega) ?_
          show am_wp L xs _ _ _ _ 57 [.ref 0, .int 1, .int x2, .int 3, .int x4, .int x5, .ref 67, .ref 71] [.int (-1000000002)] (am_S b) (am_u h 73 2 (h 73 2 + 1)) _
          refine wp_ret rfl ?_
          refine kk _ _ _ (fun ms2 Q2 kk2 => ?_)
          refine wp_run 6 (pc' := 8) (ls' := [.ref 74, .int 1, .int x2, .int 3, .int x4, .int x5, am_du, am_du, am_du]) (st' := [.int x5, .int x4, .int 3, .int x2, .int 1, .ref 74]) rfl ?_
          refine wp_callV (o := 74) (as := [.int 1, .int x2, .int 3, .int x4, .int x5]) (rest := []) (els := [.ref 74, .int 1, .int x2, .int 3, .int x4, .int x5, am_du]) rfl rfl rfl rfl rfl rfl rfl rfl (by omega) ?_
          refine wp_run 1 (pc' := 1) (ls' := [.ref 74, .int 1, .int x2, .int 3, .int x4, .int x5, am_du]) (st' := [.int 1]) rfl ?_
          refine wp_callS (as := [.int 1]) (rest := []) (els := [.int 1]) rfl rfl rfl rfl rfl rfl rfl rfl (by omega) ?_
          refine sp_m_isSheet (by omega) (fun _ _ _ => ?_) (fun q => absurd rfl (q 1 (by omega)))
          show am_wp L xs _ _ _ _ 4 [.ref 74, .int 1, .int x2, .int 3, .int x4, .int x5, am_du] [.int 1] (am_S b) (am_u h 73 2 (h 73 2 + 1)) _
          refine wp_if_f rfl (show ¬ ((1 : Int32) = 0) from by decide) ?_
          refine wp_run 1 (pc' := 8) (ls' := [.ref 74, .int 1, .int x2, .int 3, .int x4, .int x5, am_du]) (st' := [.int 3]) rfl ?_
          refine wp_callS (as := [.int 3]) (rest := []) (els := [.int 3]) rfl rfl rfl rfl rfl rfl rfl rfl (by omega) ?_
          refine sp_m_isSheet (by omega) (fun _ _ _ => ?_) (fun q => absurd rfl (q 3 (by omega)))
          show am_wp L xs _ _ _ _ 11 [.ref 74, .int 1, .int x2, .int 3, .int x4, .int x5, am_du] [.int 1] (am_S b) (am_u h 73 2 (h 73 2 + 1)) _
          refine wp_if_t rfl (show ¬ (1 : Int32) = 0 from by decide) ?_
          refine wp_run 1 (pc' := 18) (ls' := [.ref 74, .int 1, .int x2, .int 3, .int x4, .int x5, am_du]) (st' := [.ref 74]) rfl ?_
          refine wp_getr 78 rfl rfl rfl ?_
          refine wp_run 1 (pc' := 22) (ls' := [.ref 74, .int 1, .int x2, .int 3, .int x4, .int x5, am_du]) (st' := [.int 1, .ref 78]) rfl ?_
          refine wp_ald (i := 1) (h 78 1) rfl rfl rfl rfl (by decide) rfl ?_
          refine wp_if_f rfl (show ¬ ((h 78 1) = 0) from (fun q => cqz0 (hob.trans q))) ?_
          refine wp_run 1 (pc' := 27) (ls' := [.ref 74, .int 1, .int x2, .int 3, .int x4, .int x5, am_du]) (st' := [.ref 74]) rfl ?_
          refine wp_getr 78 rfl rfl rfl ?_
          refine wp_run 1 (pc' := 31) (ls' := [.ref 74, .int 1, .int x2, .int 3, .int x4, .int x5, am_du]) (st' := [.int 3, .ref 78]) rfl ?_
          refine wp_ald (i := 3) (h 78 3) rfl rfl rfl rfl (by decide) rfl ?_
          refine wp_if_f rfl (show ¬ (¬ (h 78 3) = 0) from (fun q => q (hobB.symm.trans cqz1))) ?_
          refine wp_run 1 (pc' := 37) (ls' := [.ref 74, .int 1, .int x2, .int 3, .int x4, .int x5, am_du]) (st' := [.int (-1000000002)]) rfl ?_
          refine wp_ret rfl ?_
          show am_wp L xs _ _ _ _ 11 [.ref 74, .int 1, .int x2, .int 3, .int x4, .int x5, am_du, am_du, am_du] [.int (-1000000002)] (am_S b) (am_u h 73 2 (h 73 2 + 1)) _
          refine wp_run 2 (pc' := 15) (ls' := [.ref 74, .int 1, .int x2, .int 3, .int x4, .int x5, .int (-1000000002), am_du, am_du]) (st' := [.int (-1000000002)]) rfl ?_
          refine wp_if_f rfl (show ¬ (((-1000000002) : Int32) = 0) from by decide) ?_
          refine wp_run 2 (pc' := 21) (ls' := [.ref 74, .int 1, .int x2, .int 3, .int x4, .int x5, .int (-1000000002), am_du, am_du]) (st' := [.int (-1000000002), .ref 74]) rfl ?_
          refine wp_callV (o := 74) (as := [.int (-1000000002)]) (rest := []) (els := [.ref 74, .int (-1000000002)]) rfl rfl rfl rfl rfl rfl rfl rfl (by omega) ?_
          refine sp_error2 ?_
          show am_wp L xs _ _ _ _ 24 [.ref 74, .int 1, .int x2, .int 3, .int x4, .int x5, .int (-1000000002), am_du, am_du] [.int (-1000000002)] (am_S b) (am_u (am_u h 73 2 (h 73 2 + 1)) 77 2 ((am_u h 73 2 (h 73 2 + 1)) 77 2 + 1)) _
          refine wp_ret rfl ?_
          exact kk2 _ _ (re_err2 hR)
      · skip
        replace cqz0 := Decidable.not_not.mp cqz0
        refine wp_run 2 (pc' := 12) (ls' := [.ref 67]) (st' := [.int 1]) rfl ?_
        refine wp_retz rfl (Or.inr rfl) ?_
        show am_wp L xs _ _ _ _ 41 [.ref 0, .int 1, .int x2, .int 3, .int x4, .int x5, .ref 67, .ref 71] [.int 1] (am_S b) h _
        refine wp_if_t rfl (show ¬ (1 : Int32) = 0 from by decide) ?_
        refine wp_run 2 (pc' := 54) (ls' := [.ref 0, .int 1, .int x2, .int 3, .int x4, .int x5, .ref 67, .ref 71]) (st' := [.int 2, .ref 0]) rfl ?_
        refine wp_callV (o := 0) (as := [.int 2]) (rest := []) (els := [.ref 0, .int 2]) rfl rfl rfl rfl rfl rfl rfl rfl (by omega) ?_
        refine sp_refuse2 (by omega) ?_
        show am_wp L xs _ _ _ _ 57 [.ref 0, .int 1, .int x2, .int 3, .int x4, .int x5, .ref 67, .ref 71] [.int (-1000000002)] (am_S b) (am_u h 73 2 (h 73 2 + 1)) _
        refine wp_ret rfl ?_
        refine kk _ _ _ (fun ms2 Q2 kk2 => ?_)
        refine wp_run 6 (pc' := 8) (ls' := [.ref 74, .int 1, .int x2, .int 3, .int x4, .int x5, am_du, am_du, am_du]) (st' := [.int x5, .int x4, .int 3, .int x2, .int 1, .ref 74]) rfl ?_
        refine wp_callV (o := 74) (as := [.int 1, .int x2, .int 3, .int x4, .int x5]) (rest := []) (els := [.ref 74, .int 1, .int x2, .int 3, .int x4, .int x5, am_du]) rfl rfl rfl rfl rfl rfl rfl rfl (by omega) ?_
        refine wp_run 1 (pc' := 1) (ls' := [.ref 74, .int 1, .int x2, .int 3, .int x4, .int x5, am_du]) (st' := [.int 1]) rfl ?_
        refine wp_callS (as := [.int 1]) (rest := []) (els := [.int 1]) rfl rfl rfl rfl rfl rfl rfl rfl (by omega) ?_
        refine sp_m_isSheet (by omega) (fun _ _ _ => ?_) (fun q => absurd rfl (q 1 (by omega)))
        show am_wp L xs _ _ _ _ 4 [.ref 74, .int 1, .int x2, .int 3, .int x4, .int x5, am_du] [.int 1] (am_S b) (am_u h 73 2 (h 73 2 + 1)) _
        refine wp_if_f rfl (show ¬ ((1 : Int32) = 0) from by decide) ?_
        refine wp_run 1 (pc' := 8) (ls' := [.ref 74, .int 1, .int x2, .int 3, .int x4, .int x5, am_du]) (st' := [.int 3]) rfl ?_
        refine wp_callS (as := [.int 3]) (rest := []) (els := [.int 3]) rfl rfl rfl rfl rfl rfl rfl rfl (by omega) ?_
        refine sp_m_isSheet (by omega) (fun _ _ _ => ?_) (fun q => absurd rfl (q 3 (by omega)))
        show am_wp L xs _ _ _ _ 11 [.ref 74, .int 1, .int x2, .int 3, .int x4, .int x5, am_du] [.int 1] (am_S b) (am_u h 73 2 (h 73 2 + 1)) _
        refine wp_if_t rfl (show ¬ (1 : Int32) = 0 from by decide) ?_
        refine wp_run 1 (pc' := 18) (ls' := [.ref 74, .int 1, .int x2, .int 3, .int x4, .int x5, am_du]) (st' := [.ref 74]) rfl ?_
        refine wp_getr 78 rfl rfl rfl ?_
        refine wp_run 1 (pc' := 22) (ls' := [.ref 74, .int 1, .int x2, .int 3, .int x4, .int x5, am_du]) (st' := [.int 1, .ref 78]) rfl ?_
        refine wp_ald (i := 1) (h 78 1) rfl rfl rfl rfl (by decide) rfl ?_
        refine wp_if_t rfl (show (h 78 1) = 0 from (hob.symm.trans cqz0)) ?_
        refine wp_run 1 (pc' := 37) (ls' := [.ref 74, .int 1, .int x2, .int 3, .int x4, .int x5, am_du]) (st' := [.int (-1000000002)]) rfl ?_
        refine wp_ret rfl ?_
        show am_wp L xs _ _ _ _ 11 [.ref 74, .int 1, .int x2, .int 3, .int x4, .int x5, am_du, am_du, am_du] [.int (-1000000002)] (am_S b) (am_u h 73 2 (h 73 2 + 1)) _
        refine wp_run 2 (pc' := 15) (ls' := [.ref 74, .int 1, .int x2, .int 3, .int x4, .int x5, .int (-1000000002), am_du, am_du]) (st' := [.int (-1000000002)]) rfl ?_
        refine wp_if_f rfl (show ¬ (((-1000000002) : Int32) = 0) from by decide) ?_
        refine wp_run 2 (pc' := 21) (ls' := [.ref 74, .int 1, .int x2, .int 3, .int x4, .int x5, .int (-1000000002), am_du, am_du]) (st' := [.int (-1000000002), .ref 74]) rfl ?_
        refine wp_callV (o := 74) (as := [.int (-1000000002)]) (rest := []) (els := [.ref 74, .int (-1000000002)]) rfl rfl rfl rfl rfl rfl rfl rfl (by omega) ?_
        refine sp_error2 ?_
        show am_wp L xs _ _ _ _ 24 [.ref 74, .int 1, .int x2, .int 3, .int x4, .int x5, .int (-1000000002), am_du, am_du] [.int (-1000000002)] (am_S b) (am_u (am_u h 73 2 (h 73 2 + 1)) 77 2 ((am_u h 73 2 (h 73 2 + 1)) 77 2 + 1)) _
        refine wp_ret rfl ?_
        exact kk2 _ _ (re_err2 hR)
    · skip
      intro hnx3
      show am_wp L xs _ _ _ _ 11 [.ref 0, .int 1, .int x2, .int x3, .int x4, .int x5, am_du, am_du] [.int 0] (am_S b) h _
      refine wp_if_f rfl (show ¬ (¬ (0 : Int32) = 0) from by decide) ?_
      refine wp_run 2 (pc' := 16) (ls' := [.ref 0, .int 1, .int x2, .int x3, .int x4, .int x5, am_du, am_du]) (st' := [.int 1, .ref 0]) rfl ?_
      refine wp_callV (o := 0) (as := [.int 1]) (rest := []) (els := [.ref 0, .int 1]) rfl rfl rfl rfl rfl rfl rfl rfl (by omega) ?_
      refine sp_refuse1 (by omega) ?_
      show am_wp L xs _ _ _ _ 19 [.ref 0, .int 1, .int x2, .int x3, .int x4, .int x5, am_du, am_du] [.int (-1000000001)] (am_S b) (am_u h 73 1 (h 73 1 + 1)) _
      refine wp_ret rfl ?_
      refine kk _ _ _ (fun ms2 Q2 kk2 => ?_)
      refine wp_run 6 (pc' := 8) (ls' := [.ref 74, .int 1, .int x2, .int x3, .int x4, .int x5, am_du, am_du, am_du]) (st' := [.int x5, .int x4, .int x3, .int x2, .int 1, .ref 74]) rfl ?_
      refine wp_callV (o := 74) (as := [.int 1, .int x2, .int x3, .int x4, .int x5]) (rest := []) (els := [.ref 74, .int 1, .int x2, .int x3, .int x4, .int x5, am_du]) rfl rfl rfl rfl rfl rfl rfl rfl (by omega) ?_
      refine wp_run 1 (pc' := 1) (ls' := [.ref 74, .int 1, .int x2, .int x3, .int x4, .int x5, am_du]) (st' := [.int 1]) rfl ?_
      refine wp_callS (as := [.int 1]) (rest := []) (els := [.int 1]) rfl rfl rfl rfl rfl rfl rfl rfl (by omega) ?_
      refine sp_m_isSheet (by omega) (fun _ _ _ => ?_) (fun q => absurd rfl (q 1 (by omega)))
      show am_wp L xs _ _ _ _ 4 [.ref 74, .int 1, .int x2, .int x3, .int x4, .int x5, am_du] [.int 1] (am_S b) (am_u h 73 1 (h 73 1 + 1)) _
      refine wp_if_f rfl (show ¬ ((1 : Int32) = 0) from by decide) ?_
      refine wp_run 1 (pc' := 8) (ls' := [.ref 74, .int 1, .int x2, .int x3, .int x4, .int x5, am_du]) (st' := [.int x3]) rfl ?_
      refine wp_callS (as := [.int x3]) (rest := []) (els := [.int x3]) rfl rfl rfl rfl rfl rfl rfl rfl (by omega) ?_
      refine sp_m_isSheet (by omega) (fun k hk e => absurd e (hnx3 k hk)) (fun _ => ?_)
      show am_wp L xs _ _ _ _ 11 [.ref 74, .int 1, .int x2, .int x3, .int x4, .int x5, am_du] [.int 0] (am_S b) (am_u h 73 1 (h 73 1 + 1)) _
      refine wp_if_f rfl (show ¬ (¬ (0 : Int32) = 0) from by decide) ?_
      refine wp_run 1 (pc' := 16) (ls' := [.ref 74, .int 1, .int x2, .int x3, .int x4, .int x5, am_du]) (st' := [.int (-1000000001)]) rfl ?_
      refine wp_ret rfl ?_
      show am_wp L xs _ _ _ _ 11 [.ref 74, .int 1, .int x2, .int x3, .int x4, .int x5, am_du, am_du, am_du] [.int (-1000000001)] (am_S b) (am_u h 73 1 (h 73 1 + 1)) _
      refine wp_run 2 (pc' := 15) (ls' := [.ref 74, .int 1, .int x2, .int x3, .int x4, .int x5, .int (-1000000001), am_du, am_du]) (st' := [.int (-1000000001)]) rfl ?_
      refine wp_if_f rfl (show ¬ (((-1000000001) : Int32) = 0) from by decide) ?_
      refine wp_run 2 (pc' := 21) (ls' := [.ref 74, .int 1, .int x2, .int x3, .int x4, .int x5, .int (-1000000001), am_du, am_du]) (st' := [.int (-1000000001), .ref 74]) rfl ?_
      refine wp_callV (o := 74) (as := [.int (-1000000001)]) (rest := []) (els := [.ref 74, .int (-1000000001)]) rfl rfl rfl rfl rfl rfl rfl rfl (by omega) ?_
      refine sp_error1 ?_
      show am_wp L xs _ _ _ _ 24 [.ref 74, .int 1, .int x2, .int x3, .int x4, .int x5, .int (-1000000001), am_du, am_du] [.int (-1000000001)] (am_S b) (am_u (am_u h 73 1 (h 73 1 + 1)) 77 1 ((am_u h 73 1 (h 73 1 + 1)) 77 1 + 1)) _
      refine wp_ret rfl ?_
      exact kk2 _ _ (re_err1 hR)
  · skip
    intro ex1
    subst ex1
    show am_wp L xs _ _ _ _ 4 [.ref 0, .int 2, .int x2, .int x3, .int x4, .int x5, am_du, am_du] [.int 1] (am_S b) h _
    refine wp_if_f rfl (show ¬ ((1 : Int32) = 0) from by decide) ?_
    refine wp_run 1 (pc' := 8) (ls' := [.ref 0, .int 2, .int x2, .int x3, .int x4, .int x5, am_du, am_du]) (st' := [.int x3]) rfl ?_
    refine wp_callS (as := [.int x3]) (rest := []) (els := [.int x3]) rfl rfl rfl rfl rfl rfl rfl rfl (by omega) ?_
    refine sp_x_isSheet (by omega) (pu_four ?_ ?_ ?_ ?_) ?_
    · skip
      intro ex3
      subst ex3
      show am_wp L xs _ _ _ _ 11 [.ref 0, .int 2, .int x2, .int 0, .int x4, .int x5, am_du, am_du] [.int 1] (am_S b) h _
      refine wp_if_t rfl (show ¬ (1 : Int32) = 0 from by decide) ?_
      obtain ⟨l, hl24, ho2, hz2, hob, hbb, hri⟩ := id hS2
      obtain ⟨lB, hl24B, ho2B, hz2B, hobB, hbbB, hriB⟩ := id hS0
      refine wp_run 1 (pc' := 21) (ls' := [.ref 0, .int 2, .int x2, .int 0, .int x4, .int x5, am_du, am_du]) (st' := [.ref 0]) rfl ?_
      refine wp_getr 64 rfl rfl rfl ?_
      refine wp_run 1 (pc' := 25) (ls' := [.ref 0, .int 2, .int x2, .int 0, .int x4, .int x5, am_du, am_du]) (st' := [.int 2, .ref 64]) rfl ?_
      refine wp_aald (r := 69) rfl rfl (Or.inr rfl) rfl (by decide) rfl rfl ?_
      refine wp_run 2 (pc' := 29) (ls' := [.ref 0, .int 2, .int x2, .int 0, .int x4, .int x5, .ref 69, am_du]) (st' := [.ref 0]) rfl ?_
      refine wp_getr 64 rfl rfl rfl ?_
      refine wp_run 1 (pc' := 33) (ls' := [.ref 0, .int 2, .int x2, .int 0, .int x4, .int x5, .ref 69, am_du]) (st' := [.int 0, .ref 64]) rfl ?_
      refine wp_aald (r := 65) rfl rfl (Or.inr rfl) rfl (by decide) rfl rfl ?_
      refine wp_run 2 (pc' := 38) (ls' := [.ref 0, .int 2, .int x2, .int 0, .int x4, .int x5, .ref 69, .ref 65]) (st' := [.ref 69]) rfl ?_
      refine wp_callV (o := 69) (as := []) (rest := []) (els := [.ref 69]) rfl rfl rfl rfl rfl rfl rfl rfl (by omega) ?_
      refine wp_run 1 (pc' := 1) (ls' := [.ref 69]) (st' := [.ref 69]) rfl ?_
      refine wp_geti (a := 1) (h 69 1) rfl rfl rfl rfl ?_
      refine wp_if rfl (fun (cqz0 : ¬ (h 69 1) = 0) => ?_) (fun (cqz0 : ¬ (¬ (h 69 1) = 0)) => ?_)
      · skip
        refine wp_run 1 (pc' := 12) (ls' := [.ref 69]) (st' := [.int 0]) rfl ?_
        refine wp_retz rfl (Or.inl rfl) ?_
        show am_wp L xs _ _ _ _ 41 [.ref 0, .int 2, .int x2, .int 0, .int x4, .int x5, .ref 69, .ref 65] [.int 0] (am_S b) h _
        refine wp_if_f rfl (show ¬ (¬ (0 : Int32) = 0) from by decide) ?_
        refine wp_run 1 (pc' := 46) (ls' := [.ref 0, .int 2, .int x2, .int 0, .int x4, .int x5, .ref 69, .ref 65]) (st' := [.ref 65]) rfl ?_
        refine wp_callV (o := 65) (as := []) (rest := []) (els := [.ref 65]) rfl rfl rfl rfl rfl rfl rfl rfl (by omega) ?_
        refine wp_run 1 (pc' := 1) (ls' := [.ref 65]) (st' := [.ref 65]) rfl ?_
        refine wp_geti (a := 1) (h 65 1) rfl rfl rfl rfl ?_
        refine wp_if rfl (fun (cqz1 : ¬ (h 65 1) = 0) => ?_) (fun (cqz1 : ¬ (¬ (h 65 1) = 0)) => ?_)
        · skip
          refine wp_run 1 (pc' := 12) (ls' := [.ref 65]) (st' := [.int 0]) rfl ?_
          refine wp_retz rfl (Or.inl rfl) ?_
          show am_wp L xs _ _ _ _ 49 [.ref 0, .int 2, .int x2, .int 0, .int x4, .int x5, .ref 69, .ref 65] [.int 0] (am_S b) h _
          refine wp_if_t rfl (show (0 : Int32) = 0 from by decide) ?_
          refine wp_run 1 (pc' := 60) (ls' := [.ref 0, .int 2, .int x2, .int 0, .int x4, .int x5, .ref 69, .ref 65]) (st' := [.ref 69]) rfl ?_
          refine wp_geti (a := 1) (h 69 1) rfl rfl rfl rfl ?_
          refine wp_run 1 (pc' := 65) (ls' := [.ref 0, .int 2, .int x2, .int 0, .int x4, .int x5, .ref 69, .ref 65]) (st' := [.ref 65, .int (h 69 1)]) rfl ?_
          refine wp_geti (a := 1) (h 65 1) rfl rfl rfl rfl ?_
          refine wp_icmp rfl (fun (cqe : (h 69 1) = (h 65 1)) => ?_) (fun (cqe : ¬ ((h 69 1) = (h 65 1))) => ?_)
          · skip
            refine wp_run 3 (pc' := 82) (ls' := [.ref 0, .int 2, .int x2, .int 0, .int x4, .int x5, .ref 69, .ref 65]) (st' := [.int x5, .int x2, .ref 69]) rfl ?_
            refine wp_callV (o := 69) (as := [.int x2, .int x5]) (rest := []) (els := [.ref 69, .int x2, .int x5]) rfl rfl rfl rfl rfl rfl rfl rfl (by omega) ?_
            refine sp_holds (h := h) (o := 69) (l := l) rfl ho2 hl24 (by omega) ?_ ?_
            · skip
              intro k2 k5 e5 e2 hle1
              subst e5
              subst e2
              show am_wp L xs _ _ _ _ 85 [.ref 0, .int 2, .int (nI k2), .int 0, .int x4, .int (nI k5), .ref 69, .ref 65] [.int 1] (am_S b) h _
              refine wp_if_f rfl (show ¬ ((1 : Int32) = 0) from by decide) ?_
              refine wp_run 3 (pc' := 94) (ls' := [.ref 0, .int 2, .int (nI k2), .int 0, .int x4, .int (nI k5), .ref 69, .ref 65]) (st' := [.int (nI k5), .int x4, .ref 65]) rfl ?_
              refine wp_callV (o := 65) (as := [.int x4, .int (nI k5)]) (rest := []) (els := [.ref 65, .int x4, .int (nI k5)]) rfl rfl rfl rfl rfl rfl rfl rfl (by omega) ?_
              refine sp_holds (h := h) (o := 65) (l := lB) rfl ho2B hl24B (by omega) ?_ ?_
              · skip
                intro k4 n4 q1 e4 hle2
                have en := pu_inj (by omega) (by omega) q1
                subst en
                subst e4
                show am_wp L xs _ _ _ _ 97 [.ref 0, .int 2, .int (nI k2), .int 0, .int (nI k4), .int (nI k5), .ref 69, .ref 65] [.int 1] (am_S b) h _
                refine wp_if_t rfl (show ¬ (1 : Int32) = 0 from by decide) ?_
                refine wp_run 1 (pc' := 108) (ls' := [.ref 0, .int 2, .int (nI k2), .int 0, .int (nI k4), .int (nI k5), .ref 69, .ref 65]) (st' := [.ref 69]) rfl ?_
                refine wp_getr 70 rfl rfl rfl ?_
                refine wp_run 2 (pc' := 114) (ls' := [.ref 0, .int 2, .int (nI k2), .int 0, .int (nI k4), .int (nI k5), .ref 69, .ref 65]) (st' := [.ref 65, .int (nI k2), .ref 70]) rfl ?_
                refine wp_getr 66 rfl rfl rfl ?_
                refine wp_run 2 (pc' := 121) (ls' := [.ref 0, .int 2, .int (nI k2), .int 0, .int (nI k4), .int (nI k5), .ref 69, .ref 65]) (st' := [.int (nI k5), .int (nI k4), .ref 66, .int (nI k2), .ref 70]) rfl ?_
                refine wp_copy (q := 70) (o := 66) (sp := k2) (dp := k4) (n := k5) rfl rfl rfl rfl rfl rfl (by omega) (by omega) (by omega) (by omega) rfl (by omega) ?_
                refine wp_run 1 (pc' := 126) (ls' := [.ref 0, .int 2, .int (nI k2), .int 0, .int (nI k4), .int (nI k5), .ref 69, .ref 65]) (st' := [.int (nI k5)]) rfl ?_
                refine wp_ret rfl ?_
                refine kk _ _ _ (fun ms2 Q2 kk2 => ?_)
                refine wp_run 6 (pc' := 8) (ls' := [.ref 74, .int 2, .int (nI k2), .int 0, .int (nI k4), .int (nI k5), am_du, am_du, am_du]) (st' := [.int (nI k5), .int (nI k4), .int 0, .int (nI k2), .int 2, .ref 74]) rfl ?_
                refine wp_callV (o := 74) (as := [.int 2, .int (nI k2), .int 0, .int (nI k4), .int (nI k5)]) (rest := []) (els := [.ref 74, .int 2, .int (nI k2), .int 0, .int (nI k4), .int (nI k5), am_du]) rfl rfl rfl rfl rfl rfl rfl rfl (by omega) ?_
                refine wp_run 1 (pc' := 1) (ls' := [.ref 74, .int 2, .int (nI k2), .int 0, .int (nI k4), .int (nI k5), am_du]) (st' := [.int 2]) rfl ?_
                refine wp_callS (as := [.int 2]) (rest := []) (els := [.int 2]) rfl rfl rfl rfl rfl rfl rfl rfl (by omega) ?_
                refine sp_m_isSheet (by omega) (fun _ _ _ => ?_) (fun q => absurd rfl (q 2 (by omega)))
                show am_wp L xs _ _ _ _ 4 [.ref 74, .int 2, .int (nI k2), .int 0, .int (nI k4), .int (nI k5), am_du] [.int 1] (am_S b) (am_ur h 66 (va_cpy (h 70) (h 66) k2 k4 k5)) _
                refine wp_if_f rfl (show ¬ ((1 : Int32) = 0) from by decide) ?_
                refine wp_run 1 (pc' := 8) (ls' := [.ref 74, .int 2, .int (nI k2), .int 0, .int (nI k4), .int (nI k5), am_du]) (st' := [.int 0]) rfl ?_
                refine wp_callS (as := [.int 0]) (rest := []) (els := [.int 0]) rfl rfl rfl rfl rfl rfl rfl rfl (by omega) ?_
                refine sp_m_isSheet (by omega) (fun _ _ _ => ?_) (fun q => absurd rfl (q 0 (by omega)))
                show am_wp L xs _ _ _ _ 11 [.ref 74, .int 2, .int (nI k2), .int 0, .int (nI k4), .int (nI k5), am_du] [.int 1] (am_S b) (am_ur h 66 (va_cpy (h 70) (h 66) k2 k4 k5)) _
                refine wp_if_t rfl (show ¬ (1 : Int32) = 0 from by decide) ?_
                refine wp_run 1 (pc' := 18) (ls' := [.ref 74, .int 2, .int (nI k2), .int 0, .int (nI k4), .int (nI k5), am_du]) (st' := [.ref 74]) rfl ?_
                refine wp_getr 78 rfl rfl rfl ?_
                refine wp_run 1 (pc' := 22) (ls' := [.ref 74, .int 2, .int (nI k2), .int 0, .int (nI k4), .int (nI k5), am_du]) (st' := [.int 2, .ref 78]) rfl ?_
                refine wp_ald (i := 2) (h 78 2) rfl rfl rfl rfl (by decide) rfl ?_
                refine wp_if_f rfl (show ¬ ((h 78 2) = 0) from (fun q => cqz0 (hob.trans q))) ?_
                refine wp_run 1 (pc' := 27) (ls' := [.ref 74, .int 2, .int (nI k2), .int 0, .int (nI k4), .int (nI k5), am_du]) (st' := [.ref 74]) rfl ?_
                refine wp_getr 78 rfl rfl rfl ?_
                refine wp_run 1 (pc' := 31) (ls' := [.ref 74, .int 2, .int (nI k2), .int 0, .int (nI k4), .int (nI k5), am_du]) (st' := [.int 0, .ref 78]) rfl ?_
                refine wp_ald (i := 0) (h 78 0) rfl rfl rfl rfl (by decide) rfl ?_
                refine wp_if_t rfl (show ¬ (h 78 0) = 0 from (fun q => cqz1 (hobB.trans q))) ?_
                refine wp_run 1 (pc' := 39) (ls' := [.ref 74, .int 2, .int (nI k2), .int 0, .int (nI k4), .int (nI k5), am_du]) (st' := [.ref 74]) rfl ?_
                refine wp_getr 78 rfl rfl rfl ?_
                refine wp_run 1 (pc' := 43) (ls' := [.ref 74, .int 2, .int (nI k2), .int 0, .int (nI k4), .int (nI k5), am_du]) (st' := [.int 2, .ref 78]) rfl ?_
                refine wp_ald (i := 2) (h 78 2) rfl rfl rfl rfl (by decide) rfl ?_
                refine wp_run 1 (pc' := 45) (ls' := [.ref 74, .int 2, .int (nI k2), .int 0, .int (nI k4), .int (nI k5), am_du]) (st' := [.ref 74, .int (h 78 2)]) rfl ?_
                refine wp_getr 78 rfl rfl rfl ?_
                refine wp_run 1 (pc' := 49) (ls' := [.ref 74, .int 2, .int (nI k2), .int 0, .int (nI k4), .int (nI k5), am_du]) (st' := [.int 0, .ref 78, .int (h 78 2)]) rfl ?_
                refine wp_ald (i := 0) (h 78 0) rfl rfl rfl rfl (by decide) rfl ?_
                refine wp_icmp_t rfl (show (h 78 2) = (h 78 0) from (hob.symm.trans (cqe.trans hobB))) ?_
                refine wp_run 1 (pc' := 58) (ls' := [.ref 74, .int 2, .int (nI k2), .int 0, .int (nI k4), .int (nI k5), am_du]) (st' := [.int (nI k5)]) rfl ?_
                refine wp_if_f rfl (show ¬ ((nI k5) < 0) from mt (nI_ltI (a := k5) (b := 0) (by omega) (by omega)).mp (by omega)) ?_
                refine wp_run 1 (pc' := 62) (ls' := [.ref 74, .int 2, .int (nI k2), .int 0, .int (nI k4), .int (nI k5), am_du]) (st' := [.int (nI k2)]) rfl ?_
                refine wp_if_f rfl (show ¬ ((nI k2) < 0) from mt (nI_ltI (a := k2) (b := 0) (by omega) (by omega)).mp (by omega)) ?_
                refine wp_run 1 (pc' := 67) (ls' := [.ref 74, .int 2, .int (nI k2), .int 0, .int (nI k4), .int (nI k5), am_du]) (st' := [.int (nI k4)]) rfl ?_
                refine wp_if_f rfl (show ¬ ((nI k4) < 0) from mt (nI_ltI (a := k4) (b := 0) (by omega) (by omega)).mp (by omega)) ?_
                refine wp_run 2 (pc' := 73) (ls' := [.ref 74, .int 2, .int (nI k2), .int 0, .int (nI k4), .int (nI k5), am_du]) (st' := [.ref 74, .int (nI k5)]) rfl ?_
                refine wp_getr 79 rfl rfl rfl ?_
                refine wp_run 1 (pc' := 77) (ls' := [.ref 74, .int 2, .int (nI k2), .int 0, .int (nI k4), .int (nI k5), am_du]) (st' := [.int 2, .ref 79, .int (nI k5)]) rfl ?_
                refine wp_ald (i := 2) (nI l) hz2 rfl rfl rfl (by decide) rfl ?_
                refine wp_run 2 (pc' := 80) (ls' := [.ref 74, .int 2, .int (nI k2), .int 0, .int (nI k4), .int (nI k5), am_du]) (st' := [.int ((nI l) - (nI k2)), .int (nI k5)]) rfl ?_
                refine wp_icmp_f rfl (show ¬ (((nI l) - (nI k2)) < (nI k5)) from Int32.not_lt.mpr ((pu_suble (by omega) (by omega) hl24).mpr (by omega))) ?_
                refine wp_run 2 (pc' := 86) (ls' := [.ref 74, .int 2, .int (nI k2), .int 0, .int (nI k4), .int (nI k5), am_du]) (st' := [.ref 74, .int (nI k5)]) rfl ?_
                refine wp_getr 79 rfl rfl rfl ?_
                refine wp_run 1 (pc' := 90) (ls' := [.ref 74, .int 2, .int (nI k2), .int 0, .int (nI k4), .int (nI k5), am_du]) (st' := [.int 0, .ref 79, .int (nI k5)]) rfl ?_
                refine wp_ald (i := 0) (nI lB) hz2B rfl rfl rfl (by decide) rfl ?_
                refine wp_run 2 (pc' := 94) (ls' := [.ref 74, .int 2, .int (nI k2), .int 0, .int (nI k4), .int (nI k5), am_du]) (st' := [.int ((nI lB) - (nI k4)), .int (nI k5)]) rfl ?_
                refine wp_icmp_f rfl (show ¬ (((nI lB) - (nI k4)) < (nI k5)) from Int32.not_lt.mpr ((pu_suble (by omega) (by omega) hl24B).mpr (by omega))) ?_
                refine wp_run 4 (pc' := 106) (ls' := [.ref 74, .int 2, .int (nI k2), .int 0, .int (nI k4), .int (nI k5), .int 1]) (st' := [.int 1]) rfl ?_
                refine wp_if_f rfl (show ¬ ((1 : Int32) = 0) from by decide) ?_
                refine wp_run 2 (pc' := 115) (ls' := [.ref 74, .int 2, .int (nI k2), .int 0, .int (nI k4), .int (nI k5), .int 1]) (st' := [.int 0]) rfl ?_
                refine wp_ret rfl ?_
                show am_wp L xs _ _ _ _ 11 [.ref 74, .int 2, .int (nI k2), .int 0, .int (nI k4), .int (nI k5), am_du, am_du, am_du] [.int 0] (am_S b) (am_ur h 66 (va_cpy (h 70) (h 66) k2 k4 k5)) _
                refine wp_run 2 (pc' := 15) (ls' := [.ref 74, .int 2, .int (nI k2), .int 0, .int (nI k4), .int (nI k5), .int 0, am_du, am_du]) (st' := [.int 0]) rfl ?_
                refine wp_if_t rfl (show (0 : Int32) = 0 from by decide) ?_
                refine wp_run 2 (pc' := 28) (ls' := [.ref 74, .int 2, .int (nI k2), .int 0, .int (nI k4), .int (nI k5), .int 0, .int 0, am_du]) (st' := []) rfl ?_
                by_cases hij : k2 < k4
                · have hp := lp_mvd (L := L) (xs := xs) (d := d) (ms := ms2) (b := b) (h := (am_ur h 66 (va_cpy (h 70) (h 66) k2 k4 k5))) (Q := Q2) (s := 2) (o := 0) (i := k2) (j := k4) (n := k5) (by omega) (by omega) (by omega) (by omega) hij (by omega) ?_ k5 0 am_du (by omega)
                  · rw [mv_d0] at hp; exact hp
                  · exact kk2 _ _ ⟨⟨n, c, t, tp, wt, s0, s1, p0, p1, H⟩, re_im_s hI, hE, (re_sh_m hS2 hS0 (by omega) (by omega)), (re_sh_mo hS1 (by decide) (by omega)), (re_sh_mo hS2 (by decide) (by omega)), (re_sh_mo hS3 (by decide) (by omega)), hT⟩
                · have hp := lp_mva (L := L) (xs := xs) (d := d) (ms := ms2) (b := b) (h := (am_ur h 66 (va_cpy (h 70) (h 66) k2 k4 k5))) (Q := Q2) (s := 2) (o := 0) (i := k2) (j := k4) (n := k5) (by omega) (by omega) (by omega) (by omega) hij (by omega) ?_ k5 0 am_du (by omega)
                  · rw [mv_a0] at hp; exact hp
                  · exact kk2 _ _ ⟨⟨n, c, t, tp, wt, s0, s1, p0, p1, H⟩, re_im_s hI, hE, (re_sh_m hS2 hS0 (by omega) (by omega)), (re_sh_mo hS1 (by decide) (by omega)), (re_sh_mo hS2 (by decide) (by omega)), (re_sh_mo hS3 (by decide) (by omega)), hT⟩
              · skip
                intro hno2
                show am_wp L xs _ _ _ _ 97 [.ref 0, .int 2, .int (nI k2), .int 0, .int x4, .int (nI k5), .ref 69, .ref 65] [.int 0] (am_S b) h _
                refine wp_if_f rfl (show ¬ (¬ (0 : Int32) = 0) from by decide) ?_
                refine wp_run 2 (pc' := 102) (ls' := [.ref 0, .int 2, .int (nI k2), .int 0, .int x4, .int (nI k5), .ref 69, .ref 65]) (st' := [.int 1, .ref 0]) rfl ?_
                refine wp_callV (o := 0) (as := [.int 1]) (rest := []) (els := [.ref 0, .int 1]) rfl rfl rfl rfl rfl rfl rfl rfl (by omega) ?_
                refine sp_refuse1 (by omega) ?_
                show am_wp L xs _ _ _ _ 105 [.ref 0, .int 2, .int (nI k2), .int 0, .int x4, .int (nI k5), .ref 69, .ref 65] [.int (-1000000001)] (am_S b) (am_u h 73 1 (h 73 1 + 1)) _
                refine wp_ret rfl ?_
                refine kk _ _ _ (fun ms2 Q2 kk2 => ?_)
                refine wp_run 6 (pc' := 8) (ls' := [.ref 74, .int 2, .int (nI k2), .int 0, .int x4, .int (nI k5), am_du, am_du, am_du]) (st' := [.int (nI k5), .int x4, .int 0, .int (nI k2), .int 2, .ref 74]) rfl ?_
                refine wp_callV (o := 74) (as := [.int 2, .int (nI k2), .int 0, .int x4, .int (nI k5)]) (rest := []) (els := [.ref 74, .int 2, .int (nI k2), .int 0, .int x4, .int (nI k5), am_du]) rfl rfl rfl rfl rfl rfl rfl rfl (by omega) ?_
                refine wp_run 1 (pc' := 1) (ls' := [.ref 74, .int 2, .int (nI k2), .int 0, .int x4, .int (nI k5), am_du]) (st' := [.int 2]) rfl ?_
                refine wp_callS (as := [.int 2]) (rest := []) (els := [.int 2]) rfl rfl rfl rfl rfl rfl rfl rfl (by omega) ?_
                refine sp_m_isSheet (by omega) (fun _ _ _ => ?_) (fun q => absurd rfl (q 2 (by omega)))
                show am_wp L xs _ _ _ _ 4 [.ref 74, .int 2, .int (nI k2), .int 0, .int x4, .int (nI k5), am_du] [.int 1] (am_S b) (am_u h 73 1 (h 73 1 + 1)) _
                refine wp_if_f rfl (show ¬ ((1 : Int32) = 0) from by decide) ?_
                refine wp_run 1 (pc' := 8) (ls' := [.ref 74, .int 2, .int (nI k2), .int 0, .int x4, .int (nI k5), am_du]) (st' := [.int 0]) rfl ?_
                refine wp_callS (as := [.int 0]) (rest := []) (els := [.int 0]) rfl rfl rfl rfl rfl rfl rfl rfl (by omega) ?_
                refine sp_m_isSheet (by omega) (fun _ _ _ => ?_) (fun q => absurd rfl (q 0 (by omega)))
                show am_wp L xs _ _ _ _ 11 [.ref 74, .int 2, .int (nI k2), .int 0, .int x4, .int (nI k5), am_du] [.int 1] (am_S b) (am_u h 73 1 (h 73 1 + 1)) _
                refine wp_if_t rfl (show ¬ (1 : Int32) = 0 from by decide) ?_
                refine wp_run 1 (pc' := 18) (ls' := [.ref 74, .int 2, .int (nI k2), .int 0, .int x4, .int (nI k5), am_du]) (st' := [.ref 74]) rfl ?_
                refine wp_getr 78 rfl rfl rfl ?_
                refine wp_run 1 (pc' := 22) (ls' := [.ref 74, .int 2, .int (nI k2), .int 0, .int x4, .int (nI k5), am_du]) (st' := [.int 2, .ref 78]) rfl ?_
                refine wp_ald (i := 2) (h 78 2) rfl rfl rfl rfl (by decide) rfl ?_
                refine wp_if_f rfl (show ¬ ((h 78 2) = 0) from (fun q => cqz0 (hob.trans q))) ?_
                refine wp_run 1 (pc' := 27) (ls' := [.ref 74, .int 2, .int (nI k2), .int 0, .int x4, .int (nI k5), am_du]) (st' := [.ref 74]) rfl ?_
                refine wp_getr 78 rfl rfl rfl ?_
                refine wp_run 1 (pc' := 31) (ls' := [.ref 74, .int 2, .int (nI k2), .int 0, .int x4, .int (nI k5), am_du]) (st' := [.int 0, .ref 78]) rfl ?_
                refine wp_ald (i := 0) (h 78 0) rfl rfl rfl rfl (by decide) rfl ?_
                refine wp_if_t rfl (show ¬ (h 78 0) = 0 from (fun q => cqz1 (hobB.trans q))) ?_
                refine wp_run 1 (pc' := 39) (ls' := [.ref 74, .int 2, .int (nI k2), .int 0, .int x4, .int (nI k5), am_du]) (st' := [.ref 74]) rfl ?_
                refine wp_getr 78 rfl rfl rfl ?_
                refine wp_run 1 (pc' := 43) (ls' := [.ref 74, .int 2, .int (nI k2), .int 0, .int x4, .int (nI k5), am_du]) (st' := [.int 2, .ref 78]) rfl ?_
                refine wp_ald (i := 2) (h 78 2) rfl rfl rfl rfl (by decide) rfl ?_
                refine wp_run 1 (pc' := 45) (ls' := [.ref 74, .int 2, .int (nI k2), .int 0, .int x4, .int (nI k5), am_du]) (st' := [.ref 74, .int (h 78 2)]) rfl ?_
                refine wp_getr 78 rfl rfl rfl ?_
                refine wp_run 1 (pc' := 49) (ls' := [.ref 74, .int 2, .int (nI k2), .int 0, .int x4, .int (nI k5), am_du]) (st' := [.int 0, .ref 78, .int (h 78 2)]) rfl ?_
                refine wp_ald (i := 0) (h 78 0) rfl rfl rfl rfl (by decide) rfl ?_
                refine wp_icmp_t rfl (show (h 78 2) = (h 78 0) from (hob.symm.trans (cqe.trans hobB))) ?_
                refine wp_run 1 (pc' := 58) (ls' := [.ref 74, .int 2, .int (nI k2), .int 0, .int x4, .int (nI k5), am_du]) (st' := [.int (nI k5)]) rfl ?_
                refine wp_if_f rfl (show ¬ ((nI k5) < 0) from mt (nI_ltI (a := k5) (b := 0) (by omega) (by omega)).mp (by omega)) ?_
                refine wp_run 1 (pc' := 62) (ls' := [.ref 74, .int 2, .int (nI k2), .int 0, .int x4, .int (nI k5), am_du]) (st' := [.int (nI k2)]) rfl ?_
                refine wp_if_f rfl (show ¬ ((nI k2) < 0) from mt (nI_ltI (a := k2) (b := 0) (by omega) (by omega)).mp (by omega)) ?_
                refine wp_run 1 (pc' := 67) (ls' := [.ref 74, .int 2, .int (nI k2), .int 0, .int x4, .int (nI k5), am_du]) (st' := [.int x4]) rfl ?_
                refine wp_if rfl (fun (cq67 : x4 < 0) => ?_) (fun (cq67 : ¬ (x4 < 0)) => ?_)
                · skip
                  refine wp_run 3 (pc' := 106) (ls' := [.ref 74, .int 2, .int (nI k2), .int 0, .int x4, .int (nI k5), .int 0]) (st' := [.int 0]) rfl ?_
                  refine wp_if_t rfl (show (0 : Int32) = 0 from by decide) ?_
                  refine wp_run 1 (pc' := 115) (ls' := [.ref 74, .int 2, .int (nI k2), .int 0, .int x4, .int (nI k5), .int 0]) (st' := [.int (-1000000001)]) rfl ?_
                  refine wp_ret rfl ?_
                  show am_wp L xs _ _ _ _ 11 [.ref 74, .int 2, .int (nI k2), .int 0, .int x4, .int (nI k5), am_du, am_du, am_du] [.int (-1000000001)] (am_S b) (am_u h 73 1 (h 73 1 + 1)) _
                  refine wp_run 2 (pc' := 15) (ls' := [.ref 74, .int 2, .int (nI k2), .int 0, .int x4, .int (nI k5), .int (-1000000001), am_du, am_du]) (st' := [.int (-1000000001)]) rfl ?_
                  refine wp_if_f rfl (show ¬ (((-1000000001) : Int32) = 0) from by decide) ?_
                  refine wp_run 2 (pc' := 21) (ls' := [.ref 74, .int 2, .int (nI k2), .int 0, .int x4, .int (nI k5), .int (-1000000001), am_du, am_du]) (st' := [.int (-1000000001), .ref 74]) rfl ?_
                  refine wp_callV (o := 74) (as := [.int (-1000000001)]) (rest := []) (els := [.ref 74, .int (-1000000001)]) rfl rfl rfl rfl rfl rfl rfl rfl (by omega) ?_
                  refine sp_error1 ?_
                  show am_wp L xs _ _ _ _ 24 [.ref 74, .int 2, .int (nI k2), .int 0, .int x4, .int (nI k5), .int (-1000000001), am_du, am_du] [.int (-1000000001)] (am_S b) (am_u (am_u h 73 1 (h 73 1 + 1)) 77 1 ((am_u h 73 1 (h 73 1 + 1)) 77 1 + 1)) _
                  refine wp_ret rfl ?_
                  exact kk2 _ _ (re_err1 hR)
                · skip
                  obtain ⟨k4, hk4, ek4⟩ := pu_nonneg (Int32.not_lt.mp cq67)
                  subst ek4
                  refine wp_run 2 (pc' := 73) (ls' := [.ref 74, .int 2, .int (nI k2), .int 0, .int (nI k4), .int (nI k5), am_du]) (st' := [.ref 74, .int (nI k5)]) rfl ?_
                  refine wp_getr 79 rfl rfl rfl ?_
                  refine wp_run 1 (pc' := 77) (ls' := [.ref 74, .int 2, .int (nI k2), .int 0, .int (nI k4), .int (nI k5), am_du]) (st' := [.int 2, .ref 79, .int (nI k5)]) rfl ?_
                  refine wp_ald (i := 2) (nI l) hz2 rfl rfl rfl (by decide) rfl ?_
                  refine wp_run 2 (pc' := 80) (ls' := [.ref 74, .int 2, .int (nI k2), .int 0, .int (nI k4), .int (nI k5), am_du]) (st' := [.int ((nI l) - (nI k2)), .int (nI k5)]) rfl ?_
                  refine wp_icmp_f rfl (show ¬ (((nI l) - (nI k2)) < (nI k5)) from Int32.not_lt.mpr ((pu_suble (by omega) (by omega) hl24).mpr (by omega))) ?_
                  refine wp_run 2 (pc' := 86) (ls' := [.ref 74, .int 2, .int (nI k2), .int 0, .int (nI k4), .int (nI k5), am_du]) (st' := [.ref 74, .int (nI k5)]) rfl ?_
                  refine wp_getr 79 rfl rfl rfl ?_
                  refine wp_run 1 (pc' := 90) (ls' := [.ref 74, .int 2, .int (nI k2), .int 0, .int (nI k4), .int (nI k5), am_du]) (st' := [.int 0, .ref 79, .int (nI k5)]) rfl ?_
                  refine wp_ald (i := 0) (nI lB) hz2B rfl rfl rfl (by decide) rfl ?_
                  refine wp_run 2 (pc' := 94) (ls' := [.ref 74, .int 2, .int (nI k2), .int 0, .int (nI k4), .int (nI k5), am_du]) (st' := [.int ((nI lB) - (nI k4)), .int (nI k5)]) rfl ?_
                  refine wp_icmp_t rfl (show ((nI lB) - (nI k4)) < (nI k5) from Int32.not_le.mp (fun q => hno2 k4 k5 rfl rfl (by have := (pu_suble (by omega) (by omega) hl24B).mp q; omega))) ?_
                  refine wp_run 3 (pc' := 106) (ls' := [.ref 74, .int 2, .int (nI k2), .int 0, .int (nI k4), .int (nI k5), .int 0]) (st' := [.int 0]) rfl ?_
                  refine wp_if_t rfl (show (0 : Int32) = 0 from by decide) ?_
                  refine wp_run 1 (pc' := 115) (ls' := [.ref 74, .int 2, .int (nI k2), .int 0, .int (nI k4), .int (nI k5), .int 0]) (st' := [.int (-1000000001)]) rfl ?_
                  refine wp_ret rfl ?_
                  show am_wp L xs _ _ _ _ 11 [.ref 74, .int 2, .int (nI k2), .int 0, .int (nI k4), .int (nI k5), am_du, am_du, am_du] [.int (-1000000001)] (am_S b) (am_u h 73 1 (h 73 1 + 1)) _
                  refine wp_run 2 (pc' := 15) (ls' := [.ref 74, .int 2, .int (nI k2), .int 0, .int (nI k4), .int (nI k5), .int (-1000000001), am_du, am_du]) (st' := [.int (-1000000001)]) rfl ?_
                  refine wp_if_f rfl (show ¬ (((-1000000001) : Int32) = 0) from by decide) ?_
                  refine wp_run 2 (pc' := 21) (ls' := [.ref 74, .int 2, .int (nI k2), .int 0, .int (nI k4), .int (nI k5), .int (-1000000001), am_du, am_du]) (st' := [.int (-1000000001), .ref 74]) rfl ?_
                  refine wp_callV (o := 74) (as := [.int (-1000000001)]) (rest := []) (els := [.ref 74, .int (-1000000001)]) rfl rfl rfl rfl rfl rfl rfl rfl (by omega) ?_
                  refine sp_error1 ?_
                  show am_wp L xs _ _ _ _ 24 [.ref 74, .int 2, .int (nI k2), .int 0, .int (nI k4), .int (nI k5), .int (-1000000001), am_du, am_du] [.int (-1000000001)] (am_S b) (am_u (am_u h 73 1 (h 73 1 + 1)) 77 1 ((am_u h 73 1 (h 73 1 + 1)) 77 1 + 1)) _
                  refine wp_ret rfl ?_
                  exact kk2 _ _ (re_err1 hR)
            · skip
              intro hno1
              show am_wp L xs _ _ _ _ 85 [.ref 0, .int 2, .int x2, .int 0, .int x4, .int x5, .ref 69, .ref 65] [.int 0] (am_S b) h _
              refine wp_if_t rfl (show (0 : Int32) = 0 from by decide) ?_
              refine wp_run 2 (pc' := 102) (ls' := [.ref 0, .int 2, .int x2, .int 0, .int x4, .int x5, .ref 69, .ref 65]) (st' := [.int 1, .ref 0]) rfl ?_
              refine wp_callV (o := 0) (as := [.int 1]) (rest := []) (els := [.ref 0, .int 1]) rfl rfl rfl rfl rfl rfl rfl rfl (by omega) ?_
              refine sp_refuse1 (by omega) ?_
              show am_wp L xs _ _ _ _ 105 [.ref 0, .int 2, .int x2, .int 0, .int x4, .int x5, .ref 69, .ref 65] [.int (-1000000001)] (am_S b) (am_u h 73 1 (h 73 1 + 1)) _
              refine wp_ret rfl ?_
              refine kk _ _ _ (fun ms2 Q2 kk2 => ?_)
              refine wp_run 6 (pc' := 8) (ls' := [.ref 74, .int 2, .int x2, .int 0, .int x4, .int x5, am_du, am_du, am_du]) (st' := [.int x5, .int x4, .int 0, .int x2, .int 2, .ref 74]) rfl ?_
              refine wp_callV (o := 74) (as := [.int 2, .int x2, .int 0, .int x4, .int x5]) (rest := []) (els := [.ref 74, .int 2, .int x2, .int 0, .int x4, .int x5, am_du]) rfl rfl rfl rfl rfl rfl rfl rfl (by omega) ?_
              refine wp_run 1 (pc' := 1) (ls' := [.ref 74, .int 2, .int x2, .int 0, .int x4, .int x5, am_du]) (st' := [.int 2]) rfl ?_
              refine wp_callS (as := [.int 2]) (rest := []) (els := [.int 2]) rfl rfl rfl rfl rfl rfl rfl rfl (by omega) ?_
              refine sp_m_isSheet (by omega) (fun _ _ _ => ?_) (fun q => absurd rfl (q 2 (by omega)))
              show am_wp L xs _ _ _ _ 4 [.ref 74, .int 2, .int x2, .int 0, .int x4, .int x5, am_du] [.int 1] (am_S b) (am_u h 73 1 (h 73 1 + 1)) _
              refine wp_if_f rfl (show ¬ ((1 : Int32) = 0) from by decide) ?_
              refine wp_run 1 (pc' := 8) (ls' := [.ref 74, .int 2, .int x2, .int 0, .int x4, .int x5, am_du]) (st' := [.int 0]) rfl ?_
              refine wp_callS (as := [.int 0]) (rest := []) (els := [.int 0]) rfl rfl rfl rfl rfl rfl rfl rfl (by omega) ?_
              refine sp_m_isSheet (by omega) (fun _ _ _ => ?_) (fun q => absurd rfl (q 0 (by omega)))
              show am_wp L xs _ _ _ _ 11 [.ref 74, .int 2, .int x2, .int 0, .int x4, .int x5, am_du] [.int 1] (am_S b) (am_u h 73 1 (h 73 1 + 1)) _
              refine wp_if_t rfl (show ¬ (1 : Int32) = 0 from by decide) ?_
              refine wp_run 1 (pc' := 18) (ls' := [.ref 74, .int 2, .int x2, .int 0, .int x4, .int x5, am_du]) (st' := [.ref 74]) rfl ?_
              refine wp_getr 78 rfl rfl rfl ?_
              refine wp_run 1 (pc' := 22) (ls' := [.ref 74, .int 2, .int x2, .int 0, .int x4, .int x5, am_du]) (st' := [.int 2, .ref 78]) rfl ?_
              refine wp_ald (i := 2) (h 78 2) rfl rfl rfl rfl (by decide) rfl ?_
              refine wp_if_f rfl (show ¬ ((h 78 2) = 0) from (fun q => cqz0 (hob.trans q))) ?_
              refine wp_run 1 (pc' := 27) (ls' := [.ref 74, .int 2, .int x2, .int 0, .int x4, .int x5, am_du]) (st' := [.ref 74]) rfl ?_
              refine wp_getr 78 rfl rfl rfl ?_
              refine wp_run 1 (pc' := 31) (ls' := [.ref 74, .int 2, .int x2, .int 0, .int x4, .int x5, am_du]) (st' := [.int 0, .ref 78]) rfl ?_
              refine wp_ald (i := 0) (h 78 0) rfl rfl rfl rfl (by decide) rfl ?_
              refine wp_if_t rfl (show ¬ (h 78 0) = 0 from (fun q => cqz1 (hobB.trans q))) ?_
              refine wp_run 1 (pc' := 39) (ls' := [.ref 74, .int 2, .int x2, .int 0, .int x4, .int x5, am_du]) (st' := [.ref 74]) rfl ?_
              refine wp_getr 78 rfl rfl rfl ?_
              refine wp_run 1 (pc' := 43) (ls' := [.ref 74, .int 2, .int x2, .int 0, .int x4, .int x5, am_du]) (st' := [.int 2, .ref 78]) rfl ?_
              refine wp_ald (i := 2) (h 78 2) rfl rfl rfl rfl (by decide) rfl ?_
              refine wp_run 1 (pc' := 45) (ls' := [.ref 74, .int 2, .int x2, .int 0, .int x4, .int x5, am_du]) (st' := [.ref 74, .int (h 78 2)]) rfl ?_
              refine wp_getr 78 rfl rfl rfl ?_
              refine wp_run 1 (pc' := 49) (ls' := [.ref 74, .int 2, .int x2, .int 0, .int x4, .int x5, am_du]) (st' := [.int 0, .ref 78, .int (h 78 2)]) rfl ?_
              refine wp_ald (i := 0) (h 78 0) rfl rfl rfl rfl (by decide) rfl ?_
              refine wp_icmp_t rfl (show (h 78 2) = (h 78 0) from (hob.symm.trans (cqe.trans hobB))) ?_
              refine wp_run 1 (pc' := 58) (ls' := [.ref 74, .int 2, .int x2, .int 0, .int x4, .int x5, am_du]) (st' := [.int x5]) rfl ?_
              refine wp_if rfl (fun (cq58 : x5 < 0) => ?_) (fun (cq58 : ¬ (x5 < 0)) => ?_)
              · skip
                refine wp_run 3 (pc' := 106) (ls' := [.ref 74, .int 2, .int x2, .int 0, .int x4, .int x5, .int 0]) (st' := [.int 0]) rfl ?_
                refine wp_if_t rfl (show (0 : Int32) = 0 from by decide) ?_
                refine wp_run 1 (pc' := 115) (ls' := [.ref 74, .int 2, .int x2, .int 0, .int x4, .int x5, .int 0]) (st' := [.int (-1000000001)]) rfl ?_
                refine wp_ret rfl ?_
                show am_wp L xs _ _ _ _ 11 [.ref 74, .int 2, .int x2, .int 0, .int x4, .int x5, am_du, am_du, am_du] [.int (-1000000001)] (am_S b) (am_u h 73 1 (h 73 1 + 1)) _
                refine wp_run 2 (pc' := 15) (ls' := [.ref 74, .int 2, .int x2, .int 0, .int x4, .int x5, .int (-1000000001), am_du, am_du]) (st' := [.int (-1000000001)]) rfl ?_
                refine wp_if_f rfl (show ¬ (((-1000000001) : Int32) = 0) from by decide) ?_
                refine wp_run 2 (pc' := 21) (ls' := [.ref 74, .int 2, .int x2, .int 0, .int x4, .int x5, .int (-1000000001), am_du, am_du]) (st' := [.int (-1000000001), .ref 74]) rfl ?_
                refine wp_callV (o := 74) (as := [.int (-1000000001)]) (rest := []) (els := [.ref 74, .int (-1000000001)]) rfl rfl rfl rfl rfl rfl rfl rfl (by omega) ?_
                refine sp_error1 ?_
                show am_wp L xs _ _ _ _ 24 [.ref 74, .int 2, .int x2, .int 0, .int x4, .int x5, .int (-1000000001), am_du, am_du] [.int (-1000000001)] (am_S b) (am_u (am_u h 73 1 (h 73 1 + 1)) 77 1 ((am_u h 73 1 (h 73 1 + 1)) 77 1 + 1)) _
                refine wp_ret rfl ?_
                exact kk2 _ _ (re_err1 hR)
              · skip
                obtain ⟨k5, hk5, ek5⟩ := pu_nonneg (Int32.not_lt.mp cq58)
                subst ek5
                refine wp_run 1 (pc' := 62) (ls' := [.ref 74, .int 2, .int x2, .int 0, .int x4, .int (nI k5), am_du]) (st' := [.int x2]) rfl ?_
                refine wp_if rfl (fun (cq62 : x2 < 0) => ?_) (fun (cq62 : ¬ (x2 < 0)) => ?_)
                · skip
                  refine wp_run 3 (pc' := 106) (ls' := [.ref 74, .int 2, .int x2, .int 0, .int x4, .int (nI k5), .int 0]) (st' := [.int 0]) rfl ?_
                  refine wp_if_t rfl (show (0 : Int32) = 0 from by decide) ?_
                  refine wp_run 1 (pc' := 115) (ls' := [.ref 74, .int 2, .int x2, .int 0, .int x4, .int (nI k5), .int 0]) (st' := [.int (-1000000001)]) rfl ?_
                  refine wp_ret rfl ?_
                  show am_wp L xs _ _ _ _ 11 [.ref 74, .int 2, .int x2, .int 0, .int x4, .int (nI k5), am_du, am_du, am_du] [.int (-1000000001)] (am_S b) (am_u h 73 1 (h 73 1 + 1)) _
                  refine wp_run 2 (pc' := 15) (ls' := [.ref 74, .int 2, .int x2, .int 0, .int x4, .int (nI k5), .int (-1000000001), am_du, am_du]) (st' := [.int (-1000000001)]) rfl ?_
                  refine wp_if_f rfl (show ¬ (((-1000000001) : Int32) = 0) from by decide) ?_
                  refine wp_run 2 (pc' := 21) (ls' := [.ref 74, .int 2, .int x2, .int 0, .int x4, .int (nI k5), .int (-1000000001), am_du, am_du]) (st' := [.int (-1000000001), .ref 74]) rfl ?_
                  refine wp_callV (o := 74) (as := [.int (-1000000001)]) (rest := []) (els := [.ref 74, .int (-1000000001)]) rfl rfl rfl rfl rfl rfl rfl rfl (by omega) ?_
                  refine sp_error1 ?_
                  show am_wp L xs _ _ _ _ 24 [.ref 74, .int 2, .int x2, .int 0, .int x4, .int (nI k5), .int (-1000000001), am_du, am_du] [.int (-1000000001)] (am_S b) (am_u (am_u h 73 1 (h 73 1 + 1)) 77 1 ((am_u h 73 1 (h 73 1 + 1)) 77 1 + 1)) _
                  refine wp_ret rfl ?_
                  exact kk2 _ _ (re_err1 hR)
                · skip
                  obtain ⟨k2, hk2, ek2⟩ := pu_nonneg (Int32.not_lt.mp cq62)
                  subst ek2
                  refine wp_run 1 (pc' := 67) (ls' := [.ref 74, .int 2, .int (nI k2), .int 0, .int x4, .int (nI k5), am_du]) (st' := [.int x4]) rfl ?_
                  refine wp_if rfl (fun (cq67 : x4 < 0) => ?_) (fun (cq67 : ¬ (x4 < 0)) => ?_)
                  · skip
                    refine wp_run 3 (pc' := 106) (ls' := [.ref 74, .int 2, .int (nI k2), .int 0, .int x4, .int (nI k5), .int 0]) (st' := [.int 0]) rfl ?_
                    refine wp_if_t rfl (show (0 : Int32) = 0 from by decide) ?_
                    refine wp_run 1 (pc' := 115) (ls' := [.ref 74, .int 2, .int (nI k2), .int 0, .int x4, .int (nI k5), .int 0]) (st' := [.int (-1000000001)]) rfl ?_
                    refine wp_ret rfl ?_
                    show am_wp L xs _ _ _ _ 11 [.ref 74, .int 2, .int (nI k2), .int 0, .int x4, .int (nI k5), am_du, am_du, am_du] [.int (-1000000001)] (am_S b) (am_u h 73 1 (h 73 1 + 1)) _
                    refine wp_run 2 (pc' := 15) (ls' := [.ref 74, .int 2, .int (nI k2), .int 0, .int x4, .int (nI k5), .int (-1000000001), am_du, am_du]) (st' := [.int (-1000000001)]) rfl ?_
                    refine wp_if_f rfl (show ¬ (((-1000000001) : Int32) = 0) from by decide) ?_
                    refine wp_run 2 (pc' := 21) (ls' := [.ref 74, .int 2, .int (nI k2), .int 0, .int x4, .int (nI k5), .int (-1000000001), am_du, am_du]) (st' := [.int (-1000000001), .ref 74]) rfl ?_
                    refine wp_callV (o := 74) (as := [.int (-1000000001)]) (rest := []) (els := [.ref 74, .int (-1000000001)]) rfl rfl rfl rfl rfl rfl rfl rfl (by omega) ?_
                    refine sp_error1 ?_
                    show am_wp L xs _ _ _ _ 24 [.ref 74, .int 2, .int (nI k2), .int 0, .int x4, .int (nI k5), .int (-1000000001), am_du, am_du] [.int (-1000000001)] (am_S b) (am_u (am_u h 73 1 (h 73 1 + 1)) 77 1 ((am_u h 73 1 (h 73 1 + 1)) 77 1 + 1)) _
                    refine wp_ret rfl ?_
                    exact kk2 _ _ (re_err1 hR)
                  · skip
                    obtain ⟨k4, hk4, ek4⟩ := pu_nonneg (Int32.not_lt.mp cq67)
                    subst ek4
                    refine wp_run 2 (pc' := 73) (ls' := [.ref 74, .int 2, .int (nI k2), .int 0, .int (nI k4), .int (nI k5), am_du]) (st' := [.ref 74, .int (nI k5)]) rfl ?_
                    refine wp_getr 79 rfl rfl rfl ?_
                    refine wp_run 1 (pc' := 77) (ls' := [.ref 74, .int 2, .int (nI k2), .int 0, .int (nI k4), .int (nI k5), am_du]) (st' := [.int 2, .ref 79, .int (nI k5)]) rfl ?_
                    refine wp_ald (i := 2) (nI l) hz2 rfl rfl rfl (by decide) rfl ?_
                    refine wp_run 2 (pc' := 80) (ls' := [.ref 74, .int 2, .int (nI k2), .int 0, .int (nI k4), .int (nI k5), am_du]) (st' := [.int ((nI l) - (nI k2)), .int (nI k5)]) rfl ?_
                    refine wp_icmp_t rfl (show ((nI l) - (nI k2)) < (nI k5) from Int32.not_le.mp (fun q => hno1 k2 k5 rfl rfl (by have := (pu_suble (by omega) (by omega) hl24).mp q; omega))) ?_
                    refine wp_run 3 (pc' := 106) (ls' := [.ref 74, .int 2, .int (nI k2), .int 0, .int (nI k4), .int (nI k5), .int 0]) (st' := [.int 0]) rfl ?_
                    refine wp_if_t rfl (show (0 : Int32) = 0 from by decide) ?_
                    refine wp_run 1 (pc' := 115) (ls' := [.ref 74, .int 2, .int (nI k2), .int 0, .int (nI k4), .int (nI k5), .int 0]) (st' := [.int (-1000000001)]) rfl ?_
                    refine wp_ret rfl ?_
                    show am_wp L xs _ _ _ _ 11 [.ref 74, .int 2, .int (nI k2), .int 0, .int (nI k4), .int (nI k5), am_du, am_du, am_du] [.int (-1000000001)] (am_S b) (am_u h 73 1 (h 73 1 + 1)) _
                    refine wp_run 2 (pc' := 15) (ls' := [.ref 74, .int 2, .int (nI k2), .int 0, .int (nI k4), .int (nI k5), .int (-1000000001), am_du, am_du]) (st' := [.int (-1000000001)]) rfl ?_
                    refine wp_if_f rfl (show ¬ (((-1000000001) : Int32) = 0) from by decide) ?_
                    refine wp_run 2 (pc' := 21) (ls' := [.ref 74, .int 2, .int (nI k2), .int 0, .int (nI k4), .int (nI k5), .int (-1000000001), am_du, am_du]) (st' := [.int (-1000000001), .ref 74]) rfl ?_
                    refine wp_callV (o := 74) (as := [.int (-1000000001)]) (rest := []) (els := [.ref 74, .int (-1000000001)]) rfl rfl rfl rfl rfl rfl rfl rfl (by omega) ?_
                    refine sp_error1 ?_
                    show am_wp L xs _ _ _ _ 24 [.ref 74, .int 2, .int (nI k2), .int 0, .int (nI k4), .int (nI k5), .int (-1000000001), am_du, am_du] [.int (-1000000001)] (am_S b) (am_u (am_u h 73 1 (h 73 1 + 1)) 77 1 ((am_u h 73 1 (h 73 1 + 1)) 77 1 + 1)) _
                    refine wp_ret rfl ?_
                    exact kk2 _ _ (re_err1 hR)
          · skip
            refine wp_run 2 (pc' := 73) (ls' := [.ref 0, .int 2, .int x2, .int 0, .int x4, .int x5, .ref 69, .ref 65]) (st' := [.int 5, .ref 0]) rfl ?_
            refine wp_callV (o := 0) (as := [.int 5]) (rest := []) (els := [.ref 0, .int 5]) rfl rfl rfl rfl rfl rfl rfl rfl (by omega) ?_
            refine sp_refuse5 (by omega) ?_
            show am_wp L xs _ _ _ _ 76 [.ref 0, .int 2, .int x2, .int 0, .int x4, .int x5, .ref 69, .ref 65] [.int (-1000000005)] (am_S b) (am_u h 73 5 (h 73 5 + 1)) _
            refine wp_ret rfl ?_
            refine kk _ _ _ (fun ms2 Q2 kk2 => ?_)
            refine wp_run 6 (pc' := 8) (ls' := [.ref 74, .int 2, .int x2, .int 0, .int x4, .int x5, am_du, am_du, am_du]) (st' := [.int x5, .int x4, .int 0, .int x2, .int 2, .ref 74]) rfl ?_
            refine wp_callV (o := 74) (as := [.int 2, .int x2, .int 0, .int x4, .int x5]) (rest := []) (els := [.ref 74, .int 2, .int x2, .int 0, .int x4, .int x5, am_du]) rfl rfl rfl rfl rfl rfl rfl rfl (by omega) ?_
            refine wp_run 1 (pc' := 1) (ls' := [.ref 74, .int 2, .int x2, .int 0, .int x4, .int x5, am_du]) (st' := [.int 2]) rfl ?_
            refine wp_callS (as := [.int 2]) (rest := []) (els := [.int 2]) rfl rfl rfl rfl rfl rfl rfl rfl (by omega) ?_
            refine sp_m_isSheet (by omega) (fun _ _ _ => ?_) (fun q => absurd rfl (q 2 (by omega)))
            show am_wp L xs _ _ _ _ 4 [.ref 74, .int 2, .int x2, .int 0, .int x4, .int x5, am_du] [.int 1] (am_S b) (am_u h 73 5 (h 73 5 + 1)) _
            refine wp_if_f rfl (show ¬ ((1 : Int32) = 0) from by decide) ?_
            refine wp_run 1 (pc' := 8) (ls' := [.ref 74, .int 2, .int x2, .int 0, .int x4, .int x5, am_du]) (st' := [.int 0]) rfl ?_
            refine wp_callS (as := [.int 0]) (rest := []) (els := [.int 0]) rfl rfl rfl rfl rfl rfl rfl rfl (by omega) ?_
            refine sp_m_isSheet (by omega) (fun _ _ _ => ?_) (fun q => absurd rfl (q 0 (by omega)))
            show am_wp L xs _ _ _ _ 11 [.ref 74, .int 2, .int x2, .int 0, .int x4, .int x5, am_du] [.int 1] (am_S b) (am_u h 73 5 (h 73 5 + 1)) _
            refine wp_if_t rfl (show ¬ (1 : Int32) = 0 from by decide) ?_
            refine wp_run 1 (pc' := 18) (ls' := [.ref 74, .int 2, .int x2, .int 0, .int x4, .int x5, am_du]) (st' := [.ref 74]) rfl ?_
            refine wp_getr 78 rfl rfl rfl ?_
            refine wp_run 1 (pc' := 22) (ls' := [.ref 74, .int 2, .int x2, .int 0, .int x4, .int x5, am_du]) (st' := [.int 2, .ref 78]) rfl ?_
            refine wp_ald (i := 2) (h 78 2) rfl rfl rfl rfl (by decide) rfl ?_
            refine wp_if_f rfl (show ¬ ((h 78 2) = 0) from (fun q => cqz0 (hob.trans q))) ?_
            refine wp_run 1 (pc' := 27) (ls' := [.ref 74, .int 2, .int x2, .int 0, .int x4, .int x5, am_du]) (st' := [.ref 74]) rfl ?_
            refine wp_getr 78 rfl rfl rfl ?_
            refine wp_run 1 (pc' := 31) (ls' := [.ref 74, .int 2, .int x2, .int 0, .int x4, .int x5, am_du]) (st' := [.int 0, .ref 78]) rfl ?_
            refine wp_ald (i := 0) (h 78 0) rfl rfl rfl rfl (by decide) rfl ?_
            refine wp_if_t rfl (show ¬ (h 78 0) = 0 from (fun q => cqz1 (hobB.trans q))) ?_
            refine wp_run 1 (pc' := 39) (ls' := [.ref 74, .int 2, .int x2, .int 0, .int x4, .int x5, am_du]) (st' := [.ref 74]) rfl ?_
            refine wp_getr 78 rfl rfl rfl ?_
            refine wp_run 1 (pc' := 43) (ls' := [.ref 74, .int 2, .int x2, .int 0, .int x4, .int x5, am_du]) (st' := [.int 2, .ref 78]) rfl ?_
            refine wp_ald (i := 2) (h 78 2) rfl rfl rfl rfl (by decide) rfl ?_
            refine wp_run 1 (pc' := 45) (ls' := [.ref 74, .int 2, .int x2, .int 0, .int x4, .int x5, am_du]) (st' := [.ref 74, .int (h 78 2)]) rfl ?_
            refine wp_getr 78 rfl rfl rfl ?_
            refine wp_run 1 (pc' := 49) (ls' := [.ref 74, .int 2, .int x2, .int 0, .int x4, .int x5, am_du]) (st' := [.int 0, .ref 78, .int (h 78 2)]) rfl ?_
            refine wp_ald (i := 0) (h 78 0) rfl rfl rfl rfl (by decide) rfl ?_
            refine wp_icmp_f rfl (show ¬ ((h 78 2) = (h 78 0)) from (fun q => cqe (hob.trans (q.trans hobB.symm)))) ?_
            refine wp_run 1 (pc' := 55) (ls' := [.ref 74, .int 2, .int x2, .int 0, .int x4, .int x5, am_du]) (st' := [.int (-1000000005)]) rfl ?_
            refine wp_ret rfl ?_
            show am_wp L xs _ _ _ _ 11 [.ref 74, .int 2, .int x2, .int 0, .int x4, .int x5, am_du, am_du, am_du] [.int (-1000000005)] (am_S b) (am_u h 73 5 (h 73 5 + 1)) _
            refine wp_run 2 (pc' := 15) (ls' := [.ref 74, .int 2, .int x2, .int 0, .int x4, .int x5, .int (-1000000005), am_du, am_du]) (st' := [.int (-1000000005)]) rfl ?_
            refine wp_if_f rfl (show ¬ (((-1000000005) : Int32) = 0) from by decide) ?_
            refine wp_run 2 (pc' := 21) (ls' := [.ref 74, .int 2, .int x2, .int 0, .int x4, .int x5, .int (-1000000005), am_du, am_du]) (st' := [.int (-1000000005), .ref 74]) rfl ?_
            refine wp_callV (o := 74) (as := [.int (-1000000005)]) (rest := []) (els := [.ref 74, .int (-1000000005)]) rfl rfl rfl rfl rfl rfl rfl rfl (by omega) ?_
            refine sp_error5 ?_
            show am_wp L xs _ _ _ _ 24 [.ref 74, .int 2, .int x2, .int 0, .int x4, .int x5, .int (-1000000005), am_du, am_du] [.int (-1000000005)] (am_S b) (am_u (am_u h 73 5 (h 73 5 + 1)) 77 5 ((am_u h 73 5 (h 73 5 + 1)) 77 5 + 1)) _
            refine wp_ret rfl ?_
            exact kk2 _ _ (re_err5 hR)
        · skip
          replace cqz1 := Decidable.not_not.mp cqz1
          refine wp_run 2 (pc' := 12) (ls' := [.ref 65]) (st' := [.int 1]) rfl ?_
          refine wp_retz rfl (Or.inr rfl) ?_
          show am_wp L xs _ _ _ _ 49 [.ref 0, .int 2, .int x2, .int 0, .int x4, .int x5, .ref 69, .ref 65] [.int 1] (am_S b) h _
          refine wp_if_f rfl (show ¬ ((1 : Int32) = 0) from by decide) ?_
          refine wp_run 2 (pc' := 54) (ls' := [.ref 0, .int 2, .int x2, .int 0, .int x4, .int x5, .ref 69, .ref 65]) (st' := [.int 2, .ref 0]) rfl ?_
          refine wp_callV (o := 0) (as := [.int 2]) (rest := []) (els := [.ref 0, .int 2]) rfl rfl rfl rfl rfl rfl rfl rfl (by omega) ?_
          refine sp_refuse2 (by omega) ?_
          show am_wp L xs _ _ _ _ 57 [.ref 0, .int 2, .int x2, .int 0, .int x4, .int x5, .ref 69, .ref 65] [.int (-1000000002)] (am_S b) (am_u h 73 2 (h 73 2 + 1)) _
          refine wp_ret rfl ?_
          refine kk _ _ _ (fun ms2 Q2 kk2 => ?_)
          refine wp_run 6 (pc' := 8) (ls' := [.ref 74, .int 2, .int x2, .int 0, .int x4, .int x5, am_du, am_du, am_du]) (st' := [.int x5, .int x4, .int 0, .int x2, .int 2, .ref 74]) rfl ?_
          refine wp_callV (o := 74) (as := [.int 2, .int x2, .int 0, .int x4, .int x5]) (rest := []) (els := [.ref 74, .int 2, .int x2, .int 0, .int x4, .int x5, am_du]) rfl rfl rfl rfl rfl rfl rfl rfl (by omega) ?_
          refine wp_run 1 (pc' := 1) (ls' := [.ref 74, .int 2, .int x2, .int 0, .int x4, .int x5, am_du]) (st' := [.int 2]) rfl ?_
          refine wp_callS (as := [.int 2]) (rest := []) (els := [.int 2]) rfl rfl rfl rfl rfl rfl rfl rfl (by omega) ?_
          refine sp_m_isSheet (by omega) (fun _ _ _ => ?_) (fun q => absurd rfl (q 2 (by omega)))
          show am_wp L xs _ _ _ _ 4 [.ref 74, .int 2, .int x2, .int 0, .int x4, .int x5, am_du] [.int 1] (am_S b) (am_u h 73 2 (h 73 2 + 1)) _
          refine wp_if_f rfl (show ¬ ((1 : Int32) = 0) from by decide) ?_
          refine wp_run 1 (pc' := 8) (ls' := [.ref 74, .int 2, .int x2, .int 0, .int x4, .int x5, am_du]) (st' := [.int 0]) rfl ?_
          refine wp_callS (as := [.int 0]) (rest := []) (els := [.int 0]) rfl rfl rfl rfl rfl rfl rfl rfl (by omega) ?_
          refine sp_m_isSheet (by omega) (fun _ _ _ => ?_) (fun q => absurd rfl (q 0 (by omega)))
          show am_wp L xs _ _ _ _ 11 [.ref 74, .int 2, .int x2, .int 0, .int x4, .int x5, am_du] [.int 1] (am_S b) (am_u h 73 2 (h 73 2 + 1)) _
          refine wp_if_t rfl (show ¬ (1 : Int32) = 0 from by decide) ?_
          refine wp_run 1 (pc' := 18) (ls' := [.ref 74, .int 2, .int x2, .int 0, .int x4, .int x5, am_du]) (st' := [.ref 74]) rfl ?_
          refine wp_getr 78 rfl rfl rfl ?_
          refine wp_run 1 (pc' := 22) (ls' := [.ref 74, .int 2, .int x2, .int 0, .int x4, .int x5, am_du]) (st' := [.int 2, .ref 78]) rfl ?_
          refine wp_ald (i := 2) (h 78 2) rfl rfl rfl rfl (by decide) rfl ?_
          refine wp_if_f rfl (show ¬ ((h 78 2) = 0) from (fun q => cqz0 (hob.trans q))) ?_
          refine wp_run 1 (pc' := 27) (ls' := [.ref 74, .int 2, .int x2, .int 0, .int x4, .int x5, am_du]) (st' := [.ref 74]) rfl ?_
          refine wp_getr 78 rfl rfl rfl ?_
          refine wp_run 1 (pc' := 31) (ls' := [.ref 74, .int 2, .int x2, .int 0, .int x4, .int x5, am_du]) (st' := [.int 0, .ref 78]) rfl ?_
          refine wp_ald (i := 0) (h 78 0) rfl rfl rfl rfl (by decide) rfl ?_
          refine wp_if_f rfl (show ¬ (¬ (h 78 0) = 0) from (fun q => q (hobB.symm.trans cqz1))) ?_
          refine wp_run 1 (pc' := 37) (ls' := [.ref 74, .int 2, .int x2, .int 0, .int x4, .int x5, am_du]) (st' := [.int (-1000000002)]) rfl ?_
          refine wp_ret rfl ?_
          show am_wp L xs _ _ _ _ 11 [.ref 74, .int 2, .int x2, .int 0, .int x4, .int x5, am_du, am_du, am_du] [.int (-1000000002)] (am_S b) (am_u h 73 2 (h 73 2 + 1)) _
          refine wp_run 2 (pc' := 15) (ls' := [.ref 74, .int 2, .int x2, .int 0, .int x4, .int x5, .int (-1000000002), am_du, am_du]) (st' := [.int (-1000000002)]) rfl ?_
          refine wp_if_f rfl (show ¬ (((-1000000002) : Int32) = 0) from by decide) ?_
          refine wp_run 2 (pc' := 21) (ls' := [.ref 74, .int 2, .int x2, .int 0, .int x4, .int x5, .int (-1000000002), am_du, am_du]) (st' := [.int (-1000000002), .ref 74]) rfl ?_
          refine wp_callV (o := 74) (as := [.int (-1000000002)]) (rest := []) (els := [.ref 74, .int (-1000000002)]) rfl rfl rfl rfl rfl rfl rfl rfl (by omega) ?_
          refine sp_error2 ?_
          show am_wp L xs _ _ _ _ 24 [.ref 74, .int 2, .int x2, .int 0, .int x4, .int x5, .int (-1000000002), am_du, am_du] [.int (-1000000002)] (am_S b) (am_u (am_u h 73 2 (h 73 2 + 1)) 77 2 ((am_u h 73 2 (h 73 2 + 1)) 77 2 + 1)) _
          refine wp_ret rfl ?_
          exact kk2 _ _ (re_err2 hR)
      · skip
        replace cqz0 := Decidable.not_not.mp cqz0
        refine wp_run 2 (pc' := 12) (ls' := [.ref 69]) (st' := [.int 1]) rfl ?_
        refine wp_retz rfl (Or.inr rfl) ?_
        show am_wp L xs _ _ _ _ 41 [.ref 0, .int 2, .int x2, .int 0, .int x4, .int x5, .ref 69, .ref 65] [.int 1] (am_S b) h _
        refine wp_if_t rfl (show ¬ (1 : Int32) = 0 from by decide) ?_
        refine wp_run 2 (pc' := 54) (ls' := [.ref 0, .int 2, .int x2, .int 0, .int x4, .int x5, .ref 69, .ref 65]) (st' := [.int 2, .ref 0]) rfl ?_
        refine wp_callV (o := 0) (as := [.int 2]) (rest := []) (els := [.ref 0, .int 2]) rfl rfl rfl rfl rfl rfl rfl rfl (by omega) ?_
        refine sp_refuse2 (by omega) ?_
        show am_wp L xs _ _ _ _ 57 [.ref 0, .int 2, .int x2, .int 0, .int x4, .int x5, .ref 69, .ref 65] [.int (-1000000002)] (am_S b) (am_u h 73 2 (h 73 2 + 1)) _
        refine wp_ret rfl ?_
        refine kk _ _ _ (fun ms2 Q2 kk2 => ?_)
        refine wp_run 6 (pc' := 8) (ls' := [.ref 74, .int 2, .int x2, .int 0, .int x4, .int x5, am_du, am_du, am_du]) (st' := [.int x5, .int x4, .int 0, .int x2, .int 2, .ref 74]) rfl ?_
        refine wp_callV (o := 74) (as := [.int 2, .int x2, .int 0, .int x4, .int x5]) (rest := []) (els := [.ref 74, .int 2, .int x2, .int 0, .int x4, .int x5, am_du]) rfl rfl rfl rfl rfl rfl rfl rfl (by omega) ?_
        refine wp_run 1 (pc' := 1) (ls' := [.ref 74, .int 2, .int x2, .int 0, .int x4, .int x5, am_du]) (st' := [.int 2]) rfl ?_
        refine wp_callS (as := [.int 2]) (rest := []) (els := [.int 2]) rfl rfl rfl rfl rfl rfl rfl rfl (by omega) ?_
        refine sp_m_isSheet (by omega) (fun _ _ _ => ?_) (fun q => absurd rfl (q 2 (by omega)))
        show am_wp L xs _ _ _ _ 4 [.ref 74, .int 2, .int x2, .int 0, .int x4, .int x5, am_du] [.int 1] (am_S b) (am_u h 73 2 (h 73 2 + 1)) _
        refine wp_if_f rfl (show ¬ ((1 : Int32) = 0) from by decide) ?_
        refine wp_run 1 (pc' := 8) (ls' := [.ref 74, .int 2, .int x2, .int 0, .int x4, .int x5, am_du]) (st' := [.int 0]) rfl ?_
        refine wp_callS (as := [.int 0]) (rest := []) (els := [.int 0]) rfl rfl rfl rfl rfl rfl rfl rfl (by omega) ?_
        refine sp_m_isSheet (by omega) (fun _ _ _ => ?_) (fun q => absurd rfl (q 0 (by omega)))
        show am_wp L xs _ _ _ _ 11 [.ref 74, .int 2, .int x2, .int 0, .int x4, .int x5, am_du] [.int 1] (am_S b) (am_u h 73 2 (h 73 2 + 1)) _
        refine wp_if_t rfl (show ¬ (1 : Int32) = 0 from by decide) ?_
        refine wp_run 1 (pc' := 18) (ls' := [.ref 74, .int 2, .int x2, .int 0, .int x4, .int x5, am_du]) (st' := [.ref 74]) rfl ?_
        refine wp_getr 78 rfl rfl rfl ?_
        refine wp_run 1 (pc' := 22) (ls' := [.ref 74, .int 2, .int x2, .int 0, .int x4, .int x5, am_du]) (st' := [.int 2, .ref 78]) rfl ?_
        refine wp_ald (i := 2) (h 78 2) rfl rfl rfl rfl (by decide) rfl ?_
        refine wp_if_t rfl (show (h 78 2) = 0 from (hob.symm.trans cqz0)) ?_
        refine wp_run 1 (pc' := 37) (ls' := [.ref 74, .int 2, .int x2, .int 0, .int x4, .int x5, am_du]) (st' := [.int (-1000000002)]) rfl ?_
        refine wp_ret rfl ?_
        show am_wp L xs _ _ _ _ 11 [.ref 74, .int 2, .int x2, .int 0, .int x4, .int x5, am_du, am_du, am_du] [.int (-1000000002)] (am_S b) (am_u h 73 2 (h 73 2 + 1)) _
        refine wp_run 2 (pc' := 15) (ls' := [.ref 74, .int 2, .int x2, .int 0, .int x4, .int x5, .int (-1000000002), am_du, am_du]) (st' := [.int (-1000000002)]) rfl ?_
        refine wp_if_f rfl (show ¬ (((-1000000002) : Int32) = 0) from by decide) ?_
        refine wp_run 2 (pc' := 21) (ls' := [.ref 74, .int 2, .int x2, .int 0, .int x4, .int x5, .int (-1000000002), am_du, am_du]) (st' := [.int (-1000000002), .ref 74]) rfl ?_
        refine wp_callV (o := 74) (as := [.int (-1000000002)]) (rest := []) (els := [.ref 74, .int (-1000000002)]) rfl rfl rfl rfl rfl rfl rfl rfl (by omega) ?_
        refine sp_error2 ?_
        show am_wp L xs _ _ _ _ 24 [.ref 74, .int 2, .int x2, .int 0, .int x4, .int x5, .int (-1000000002), am_du, am_du] [.int (-1000000002)] (am_S b) (am_u (am_u h 73 2 (h 73 2 + 1)) 77 2 ((am_u h 73 2 (h 73 2 + 1)) 77 2 + 1)) _
        refine wp_ret rfl ?_
        exact kk2 _ _ (re_err2 hR)
    · skip
      intro ex3
      subst ex3
      show am_wp L xs _ _ _ _ 11 [.ref 0, .int 2, .int x2, .int 1, .int x4, .int x5, am_du, am_du] [.int 1] (am_S b) h _
      refine wp_if_t rfl (show ¬ (1 : Int32) = 0 from by decide) ?_
      obtain ⟨l, hl24, ho2, hz2, hob, hbb, hri⟩ := id hS2
      obtain ⟨lB, hl24B, ho2B, hz2B, hobB, hbbB, hriB⟩ := id hS1
      refine wp_run 1 (pc' := 21) (ls' := [.ref 0, .int 2, .int x2, .int 1, .int x4, .int x5, am_du, am_du]) (st' := [.ref 0]) rfl ?_
      refine wp_getr 64 rfl rfl rfl ?_
      refine wp_run 1 (pc' := 25) (ls' := [.ref 0, .int 2, .int x2, .int 1, .int x4, .int x5, am_du, am_du]) (st' := [.int 2, .ref 64]) rfl ?_
      refine wp_aald (r := 69) rfl rfl (Or.inr rfl) rfl (by decide) rfl rfl ?_
      refine wp_run 2 (pc' := 29) (ls' := [.ref 0, .int 2, .int x2, .int 1, .int x4, .int x5, .ref 69, am_du]) (st' := [.ref 0]) rfl ?_
      refine wp_getr 64 rfl rfl rfl ?_
      refine wp_run 1 (pc' := 33) (ls' := [.ref 0, .int 2, .int x2, .int 1, .int x4, .int x5, .ref 69, am_du]) (st' := [.int 1, .ref 64]) rfl ?_
      refine wp_aald (r := 67) rfl rfl (Or.inr rfl) rfl (by decide) rfl rfl ?_
      refine wp_run 2 (pc' := 38) (ls' := [.ref 0, .int 2, .int x2, .int 1, .int x4, .int x5, .ref 69, .ref 67]) (st' := [.ref 69]) rfl ?_
      refine wp_callV (o := 69) (as := []) (rest := []) (els := [.ref 69]) rfl rfl rfl rfl rfl rfl rfl rfl (by omega) ?_
      refine wp_run 1 (pc' := 1) (ls' := [.ref 69]) (st' := [.ref 69]) rfl ?_
      refine wp_geti (a := 1) (h 69 1) rfl rfl rfl rfl ?_
      refine wp_if rfl (fun (cqz0 : ¬ (h 69 1) = 0) => ?_) (fun (cqz0 : ¬ (¬ (h 69 1) = 0)) => ?_)
      · skip
        refine wp_run 1 (pc' := 12) (ls' := [.ref 69]) (st' := [.int 0]) rfl ?_
        refine wp_retz rfl (Or.inl rfl) ?_
        show am_wp L xs _ _ _ _ 41 [.ref 0, .int 2, .int x2, .int 1, .int x4, .int x5, .ref 69, .ref 67] [.int 0] (am_S b) h _
        refine wp_if_f rfl (show ¬ (¬ (0 : Int32) = 0) from by decide) ?_
        refine wp_run 1 (pc' := 46) (ls' := [.ref 0, .int 2, .int x2, .int 1, .int x4, .int x5, .ref 69, .ref 67]) (st' := [.ref 67]) rfl ?_
        refine wp_callV (o := 67) (as := []) (rest := []) (els := [.ref 67]) rfl rfl rfl rfl rfl rfl rfl rfl (by omega) ?_
        refine wp_run 1 (pc' := 1) (ls' := [.ref 67]) (st' := [.ref 67]) rfl ?_
        refine wp_geti (a := 1) (h 67 1) rfl rfl rfl rfl ?_
        refine wp_if rfl (fun (cqz1 : ¬ (h 67 1) = 0) => ?_) (fun (cqz1 : ¬ (¬ (h 67 1) = 0)) => ?_)
        · skip
          refine wp_run 1 (pc' := 12) (ls' := [.ref 67]) (st' := [.int 0]) rfl ?_
          refine wp_retz rfl (Or.inl rfl) ?_
          show am_wp L xs _ _ _ _ 49 [.ref 0, .int 2, .int x2, .int 1, .int x4, .int x5, .ref 69, .ref 67] [.int 0] (am_S b) h _
          refine wp_if_t rfl (show (0 : Int32) = 0 from by decide) ?_
          refine wp_run 1 (pc' := 60) (ls' := [.ref 0, .int 2, .int x2, .int 1, .int x4, .int x5, .ref 69, .ref 67]) (st' := [.ref 69]) rfl ?_
          refine wp_geti (a := 1) (h 69 1) rfl rfl rfl rfl ?_
          refine wp_run 1 (pc' := 65) (ls' := [.ref 0, .int 2, .int x2, .int 1, .int x4, .int x5, .ref 69, .ref 67]) (st' := [.ref 67, .int (h 69 1)]) rfl ?_
          refine wp_geti (a := 1) (h 67 1) rfl rfl rfl rfl ?_
          refine wp_icmp rfl (fun (cqe : (h 69 1) = (h 67 1)) => ?_) (fun (cqe : ¬ ((h 69 1) = (h 67 1))) => ?_)
          · skip
            refine wp_run 3 (pc' := 82) (ls' := [.ref 0, .int 2, .int x2, .int 1, .int x4, .int x5, .ref 69, .ref 67]) (st' := [.int x5, .int x2, .ref 69]) rfl ?_
            refine wp_callV (o := 69) (as := [.int x2, .int x5]) (rest := []) (els := [.ref 69, .int x2, .int x5]) rfl rfl rfl rfl rfl rfl rfl rfl (by omega) ?_
            refine sp_holds (h := h) (o := 69) (l := l) rfl ho2 hl24 (by omega) ?_ ?_
            · skip
              intro k2 k5 e5 e2 hle1
              subst e5
              subst e2
              show am_wp L xs _ _ _ _ 85 [.ref 0, .int 2, .int (nI k2), .int 1, .int x4, .int (nI k5), .ref 69, .ref 67] [.int 1] (am_S b) h _
              refine wp_if_f rfl (show ¬ ((1 : Int32) = 0) from by decide) ?_
              refine wp_run 3 (pc' := 94) (ls' := [.ref 0, .int 2, .int (nI k2), .int 1, .int x4, .int (nI k5), .ref 69, .ref 67]) (st' := [.int (nI k5), .int x4, .ref 67]) rfl ?_
              refine wp_callV (o := 67) (as := [.int x4, .int (nI k5)]) (rest := []) (els := [.ref 67, .int x4, .int (nI k5)]) rfl rfl rfl rfl rfl rfl rfl rfl (by omega) ?_
              refine sp_holds (h := h) (o := 67) (l := lB) rfl ho2B hl24B (by omega) ?_ ?_
              · skip
                intro k4 n4 q1 e4 hle2
                have en := pu_inj (by omega) (by omega) q1
                subst en
                subst e4
                show am_wp L xs _ _ _ _ 97 [.ref 0, .int 2, .int (nI k2), .int 1, .int (nI k4), .int (nI k5), .ref 69, .ref 67] [.int 1] (am_S b) h _
                refine wp_if_t rfl (show ¬ (1 : Int32) = 0 from by decide) ?_
                refine wp_run 1 (pc' := 108) (ls' := [.ref 0, .int 2, .int (nI k2), .int 1, .int (nI k4), .int (nI k5), .ref 69, .ref 67]) (st' := [.ref 69]) rfl ?_
                refine wp_getr 70 rfl rfl rfl ?_
                refine wp_run 2 (pc' := 114) (ls' := [.ref 0, .int 2, .int (nI k2), .int 1, .int (nI k4), .int (nI k5), .ref 69, .ref 67]) (st' := [.ref 67, .int (nI k2), .ref 70]) rfl ?_
                refine wp_getr 68 rfl rfl rfl ?_
                refine wp_run 2 (pc' := 121) (ls' := [.ref 0, .int 2, .int (nI k2), .int 1, .int (nI k4), .int (nI k5), .ref 69, .ref 67]) (st' := [.int (nI k5), .int (nI k4), .ref 68, .int (nI k2), .ref 70]) rfl ?_
                refine wp_copy (q := 70) (o := 68) (sp := k2) (dp := k4) (n := k5) rfl rfl rfl rfl rfl rfl (by omega) (by omega) (by omega) (by omega) rfl (by omega) ?_
                refine wp_run 1 (pc' := 126) (ls' := [.ref 0, .int 2, .int (nI k2), .int 1, .int (nI k4), .int (nI k5), .ref 69, .ref 67]) (st' := [.int (nI k5)]) rfl ?_
                refine wp_ret rfl ?_
                refine kk _ _ _ (fun ms2 Q2 kk2 => ?_)
                refine wp_run 6 (pc' := 8) (ls' := [.ref 74, .int 2, .int (nI k2), .int 1, .int (nI k4), .int (nI k5), am_du, am_du, am_du]) (st' := [.int (nI k5), .int (nI k4), .int 1, .int (nI k2), .int 2, .ref 74]) rfl ?_
                refine wp_callV (o := 74) (as := [.int 2, .int (nI k2), .int 1, .int (nI k4), .int (nI k5)]) (rest := []) (els := [.ref 74, .int 2, .int (nI k2), .int 1, .int (nI k4), .int (nI k5), am_du]) rfl rfl rfl rfl rfl rfl rfl rfl (by omega) ?_
                refine wp_run 1 (pc' := 1) (ls' := [.ref 74, .int 2, .int (nI k2), .int 1, .int (nI k4), .int (nI k5), am_du]) (st' := [.int 2]) rfl ?_
                refine wp_callS (as := [.int 2]) (rest := []) (els := [.int 2]) rfl rfl rfl rfl rfl rfl rfl rfl (by omega) ?_
                refine sp_m_isSheet (by omega) (fun _ _ _ => ?_) (fun q => absurd rfl (q 2 (by omega)))
                show am_wp L xs _ _ _ _ 4 [.ref 74, .int 2, .int (nI k2), .int 1, .int (nI k4), .int (nI k5), am_du] [.int 1] (am_S b) (am_ur h 68 (va_cpy (h 70) (h 68) k2 k4 k5)) _
                refine wp_if_f rfl (show ¬ ((1 : Int32) = 0) from by decide) ?_
                refine wp_run 1 (pc' := 8) (ls' := [.ref 74, .int 2, .int (nI k2), .int 1, .int (nI k4), .int (nI k5), am_du]) (st' := [.int 1]) rfl ?_
                refine wp_callS (as := [.int 1]) (rest := []) (els := [.int 1]) rfl rfl rfl rfl rfl rfl rfl rfl (by omega) ?_
                refine sp_m_isSheet (by omega) (fun _ _ _ => ?_) (fun q => absurd rfl (q 1 (by omega)))
                show am_wp L xs _ _ _ _ 11 [.ref 74, .int 2, .int (nI k2), .int 1, .int (nI k4), .int (nI k5), am_du] [.int 1] (am_S b) (am_ur h 68 (va_cpy (h 70) (h 68) k2 k4 k5)) _
                refine wp_if_t rfl (show ¬ (1 : Int32) = 0 from by decide) ?_
                refine wp_run 1 (pc' := 18) (ls' := [.ref 74, .int 2, .int (nI k2), .int 1, .int (nI k4), .int (nI k5), am_du]) (st' := [.ref 74]) rfl ?_
                refine wp_getr 78 rfl rfl rfl ?_
                refine wp_run 1 (pc' := 22) (ls' := [.ref 74, .int 2, .int (nI k2), .int 1, .int (nI k4), .int (nI k5), am_du]) (st' := [.int 2, .ref 78]) rfl ?_
                refine wp_ald (i := 2) (h 78 2) rfl rfl rfl rfl (by decide) rfl ?_
                refine wp_if_f rfl (show ¬ ((h 78 2) = 0) from (fun q => cqz0 (hob.trans q))) ?_
                refine wp_run 1 (pc' := 27) (ls' := [.ref 74, .int 2, .int (nI k2), .int 1, .int (nI k4), .int (nI k5), am_du]) (st' := [.ref 74]) rfl ?_
                refine wp_getr 78 rfl rfl rfl ?_
                refine wp_run 1 (pc' := 31) (ls' := [.ref 74, .int 2, .int (nI k2), .int 1, .int (nI k4), .int (nI k5), am_du]) (st' := [.int 1, .ref 78]) rfl ?_
                refine wp_ald (i := 1) (h 78 1) rfl rfl rfl rfl (by decide) rfl ?_
                refine wp_if_t rfl (show ¬ (h 78 1) = 0 from (fun q => cqz1 (hobB.trans q))) ?_
                refine wp_run 1 (pc' := 39) (ls' := [.ref 74, .int 2, .int (nI k2), .int 1, .int (nI k4), .int (nI k5), am_du]) (st' := [.ref 74]) rfl ?_
                refine wp_getr 78 rfl rfl rfl ?_
                refine wp_run 1 (pc' := 43) (ls' := [.ref 74, .int 2, .int (nI k2), .int 1, .int (nI k4), .int (nI k5), am_du]) (st' := [.int 2, .ref 78]) rfl ?_
                refine wp_ald (i := 2) (h 78 2) rfl rfl rfl rfl (by decide) rfl ?_
                refine wp_run 1 (pc' := 45) (ls' := [.ref 74, .int 2, .int (nI k2), .int 1, .int (nI k4), .int (nI k5), am_du]) (st' := [.ref 74, .int (h 78 2)]) rfl ?_
                refine wp_getr 78 rfl rfl rfl ?_
                refine wp_run 1 (pc' := 49) (ls' := [.ref 74, .int 2, .int (nI k2), .int 1, .int (nI k4), .int (nI k5), am_du]) (st' := [.int 1, .ref 78, .int (h 78 2)]) rfl ?_
                refine wp_ald (i := 1) (h 78 1) rfl rfl rfl rfl (by decide) rfl ?_
                refine wp_icmp_t rfl (show (h 78 2) = (h 78 1) from (hob.symm.trans (cqe.trans hobB))) ?_
                refine wp_run 1 (pc' := 58) (ls' := [.ref 74, .int 2, .int (nI k2), .int 1, .int (nI k4), .int (nI k5), am_du]) (st' := [.int (nI k5)]) rfl ?_
                refine wp_if_f rfl (show ¬ ((nI k5) < 0) from mt (nI_ltI (a := k5) (b := 0) (by omega) (by omega)).mp (by omega)) ?_
                refine wp_run 1 (pc' := 62) (ls' := [.ref 74, .int 2, .int (nI k2), .int 1, .int (nI k4), .int (nI k5), am_du]) (st' := [.int (nI k2)]) rfl ?_
                refine wp_if_f rfl (show ¬ ((nI k2) < 0) from mt (nI_ltI (a := k2) (b := 0) (by omega) (by omega)).mp (by omega)) ?_
                refine wp_run 1 (pc' := 67) (ls' := [.ref 74, .int 2, .int (nI k2), .int 1, .int (nI k4), .int (nI k5), am_du]) (st' := [.int (nI k4)]) rfl ?_
                refine wp_if_f rfl (show ¬ ((nI k4) < 0) from mt (nI_ltI (a := k4) (b := 0) (by omega) (by omega)).mp (by omega)) ?_
                refine wp_run 2 (pc' := 73) (ls' := [.ref 74, .int 2, .int (nI k2), .int 1, .int (nI k4), .int (nI k5), am_du]) (st' := [.ref 74, .int (nI k5)]) rfl ?_
                refine wp_getr 79 rfl rfl rfl ?_
                refine wp_run 1 (pc' := 77) (ls' := [.ref 74, .int 2, .int (nI k2), .int 1, .int (nI k4), .int (nI k5), am_du]) (st' := [.int 2, .ref 79, .int (nI k5)]) rfl ?_
                refine wp_ald (i := 2) (nI l) hz2 rfl rfl rfl (by decide) rfl ?_
                refine wp_run 2 (pc' := 80) (ls' := [.ref 74, .int 2, .int (nI k2), .int 1, .int (nI k4), .int (nI k5), am_du]) (st' := [.int ((nI l) - (nI k2)), .int (nI k5)]) rfl ?_
                refine wp_icmp_f rfl (show ¬ (((nI l) - (nI k2)) < (nI k5)) from Int32.not_lt.mpr ((pu_suble (by omega) (by omega) hl24).mpr (by omega))) ?_
                refine wp_run 2 (pc' := 86) (ls' := [.ref 74, .int 2, .int (nI k2), .int 1, .int (nI k4), .int (nI k5), am_du]) (st' := [.ref 74, .int (nI k5)]) rfl ?_
                refine wp_getr 79 rfl rfl rfl ?_
                refine wp_run 1 (pc' := 90) (ls' := [.ref 74, .int 2, .int (nI k2), .int 1, .int (nI k4), .int (nI k5), am_du]) (st' := [.int 1, .ref 79, .int (nI k5)]) rfl ?_
                refine wp_ald (i := 1) (nI lB) hz2B rfl rfl rfl (by decide) rfl ?_
                refine wp_run 2 (pc' := 94) (ls' := [.ref 74, .int 2, .int (nI k2), .int 1, .int (nI k4), .int (nI k5), am_du]) (st' := [.int ((nI lB) - (nI k4)), .int (nI k5)]) rfl ?_
                refine wp_icmp_f rfl (show ¬ (((nI lB) - (nI k4)) < (nI k5)) from Int32.not_lt.mpr ((pu_suble (by omega) (by omega) hl24B).mpr (by omega))) ?_
                refine wp_run 4 (pc' := 106) (ls' := [.ref 74, .int 2, .int (nI k2), .int 1, .int (nI k4), .int (nI k5), .int 1]) (st' := [.int 1]) rfl ?_
                refine wp_if_f rfl (show ¬ ((1 : Int32) = 0) from by decide) ?_
                refine wp_run 2 (pc' := 115) (ls' := [.ref 74, .int 2, .int (nI k2), .int 1, .int (nI k4), .int (nI k5), .int 1]) (st' := [.int 0]) rfl ?_
                refine wp_ret rfl ?_
                show am_wp L xs _ _ _ _ 11 [.ref 74, .int 2, .int (nI k2), .int 1, .int (nI k4), .int (nI k5), am_du, am_du, am_du] [.int 0] (am_S b) (am_ur h 68 (va_cpy (h 70) (h 68) k2 k4 k5)) _
                refine wp_run 2 (pc' := 15) (ls' := [.ref 74, .int 2, .int (nI k2), .int 1, .int (nI k4), .int (nI k5), .int 0, am_du, am_du]) (st' := [.int 0]) rfl ?_
                refine wp_if_t rfl (show (0 : Int32) = 0 from by decide) ?_
                refine wp_run 2 (pc' := 28) (ls' := [.ref 74, .int 2, .int (nI k2), .int 1, .int (nI k4), .int (nI k5), .int 0, .int 0, am_du]) (st' := []) rfl ?_
                by_cases hij : k2 < k4
                · have hp := lp_mvd (L := L) (xs := xs) (d := d) (ms := ms2) (b := b) (h := (am_ur h 68 (va_cpy (h 70) (h 68) k2 k4 k5))) (Q := Q2) (s := 2) (o := 1) (i := k2) (j := k4) (n := k5) (by omega) (by omega) (by omega) (by omega) hij (by omega) ?_ k5 0 am_du (by omega)
                  · rw [mv_d0] at hp; exact hp
                  · exact kk2 _ _ ⟨⟨n, c, t, tp, wt, s0, s1, p0, p1, H⟩, re_im_s hI, hE, (re_sh_mo hS0 (by decide) (by omega)), (re_sh_m hS2 hS1 (by omega) (by omega)), (re_sh_mo hS2 (by decide) (by omega)), (re_sh_mo hS3 (by decide) (by omega)), hT⟩
                · have hp := lp_mva (L := L) (xs := xs) (d := d) (ms := ms2) (b := b) (h := (am_ur h 68 (va_cpy (h 70) (h 68) k2 k4 k5))) (Q := Q2) (s := 2) (o := 1) (i := k2) (j := k4) (n := k5) (by omega) (by omega) (by omega) (by omega) hij (by omega) ?_ k5 0 am_du (by omega)
                  · rw [mv_a0] at hp; exact hp
                  · exact kk2 _ _ ⟨⟨n, c, t, tp, wt, s0, s1, p0, p1, H⟩, re_im_s hI, hE, (re_sh_mo hS0 (by decide) (by omega)), (re_sh_m hS2 hS1 (by omega) (by omega)), (re_sh_mo hS2 (by decide) (by omega)), (re_sh_mo hS3 (by decide) (by omega)), hT⟩
              · skip
                intro hno2
                show am_wp L xs _ _ _ _ 97 [.ref 0, .int 2, .int (nI k2), .int 1, .int x4, .int (nI k5), .ref 69, .ref 67] [.int 0] (am_S b) h _
                refine wp_if_f rfl (show ¬ (¬ (0 : Int32) = 0) from by decide) ?_
                refine wp_run 2 (pc' := 102) (ls' := [.ref 0, .int 2, .int (nI k2), .int 1, .int x4, .int (nI k5), .ref 69, .ref 67]) (st' := [.int 1, .ref 0]) rfl ?_
                refine wp_callV (o := 0) (as := [.int 1]) (rest := []) (els := [.ref 0, .int 1]) rfl rfl rfl rfl rfl rfl rfl rfl (by omega) ?_
                refine sp_refuse1 (by omega) ?_
                show am_wp L xs _ _ _ _ 105 [.ref 0, .int 2, .int (nI k2), .int 1, .int x4, .int (nI k5), .ref 69, .ref 67] [.int (-1000000001)] (am_S b) (am_u h 73 1 (h 73 1 + 1)) _
                refine wp_ret rfl ?_
                refine kk _ _ _ (fun ms2 Q2 kk2 => ?_)
                refine wp_run 6 (pc' := 8) (ls' := [.ref 74, .int 2, .int (nI k2), .int 1, .int x4, .int (nI k5), am_du, am_du, am_du]) (st' := [.int (nI k5), .int x4, .int 1, .int (nI k2), .int 2, .ref 74]) rfl ?_
                refine wp_callV (o := 74) (as := [.int 2, .int (nI k2), .int 1, .int x4, .int (nI k5)]) (rest := []) (els := [.ref 74, .int 2, .int (nI k2), .int 1, .int x4, .int (nI k5), am_du]) rfl rfl rfl rfl rfl rfl rfl rfl (by omega) ?_
                refine wp_run 1 (pc' := 1) (ls' := [.ref 74, .int 2, .int (nI k2), .int 1, .int x4, .int (nI k5), am_du]) (st' := [.int 2]) rfl ?_
                refine wp_callS (as := [.int 2]) (rest := []) (els := [.int 2]) rfl rfl rfl rfl rfl rfl rfl rfl (by omega) ?_
                refine sp_m_isSheet (by omega) (fun _ _ _ => ?_) (fun q => absurd rfl (q 2 (by omega)))
                show am_wp L xs _ _ _ _ 4 [.ref 74, .int 2, .int (nI k2), .int 1, .int x4, .int (nI k5), am_du] [.int 1] (am_S b) (am_u h 73 1 (h 73 1 + 1)) _
                refine wp_if_f rfl (show ¬ ((1 : Int32) = 0) from by decide) ?_
                refine wp_run 1 (pc' := 8) (ls' := [.ref 74, .int 2, .int (nI k2), .int 1, .int x4, .int (nI k5), am_du]) (st' := [.int 1]) rfl ?_
                refine wp_callS (as := [.int 1]) (rest := []) (els := [.int 1]) rfl rfl rfl rfl rfl rfl rfl rfl (by omega) ?_
                refine sp_m_isSheet (by omega) (fun _ _ _ => ?_) (fun q => absurd rfl (q 1 (by omega)))
                show am_wp L xs _ _ _ _ 11 [.ref 74, .int 2, .int (nI k2), .int 1, .int x4, .int (nI k5), am_du] [.int 1] (am_S b) (am_u h 73 1 (h 73 1 + 1)) _
                refine wp_if_t rfl (show ¬ (1 : Int32) = 0 from by decide) ?_
                refine wp_run 1 (pc' := 18) (ls' := [.ref 74, .int 2, .int (nI k2), .int 1, .int x4, .int (nI k5), am_du]) (st' := [.ref 74]) rfl ?_
                refine wp_getr 78 rfl rfl rfl ?_
                refine wp_run 1 (pc' := 22) (ls' := [.ref 74, .int 2, .int (nI k2), .int 1, .int x4, .int (nI k5), am_du]) (st' := [.int 2, .ref 78]) rfl ?_
                refine wp_ald (i := 2) (h 78 2) rfl rfl rfl rfl (by decide) rfl ?_
                refine wp_if_f rfl (show ¬ ((h 78 2) = 0) from (fun q => cqz0 (hob.trans q))) ?_
                refine wp_run 1 (pc' := 27) (ls' := [.ref 74, .int 2, .int (nI k2), .int 1, .int x4, .int (nI k5), am_du]) (st' := [.ref 74]) rfl ?_
                refine wp_getr 78 rfl rfl rfl ?_
                refine wp_run 1 (pc' := 31) (ls' := [.ref 74, .int 2, .int (nI k2), .int 1, .int x4, .int (nI k5), am_du]) (st' := [.int 1, .ref 78]) rfl ?_
                refine wp_ald (i := 1) (h 78 1) rfl rfl rfl rfl (by decide) rfl ?_
                refine wp_if_t rfl (show ¬ (h 78 1) = 0 from (fun q => cqz1 (hobB.trans q))) ?_
                refine wp_run 1 (pc' := 39) (ls' := [.ref 74, .int 2, .int (nI k2), .int 1, .int x4, .int (nI k5), am_du]) (st' := [.ref 74]) rfl ?_
                refine wp_getr 78 rfl rfl rfl ?_
                refine wp_run 1 (pc' := 43) (ls' := [.ref 74, .int 2, .int (nI k2), .int 1, .int x4, .int (nI k5), am_du]) (st' := [.int 2, .ref 78]) rfl ?_
                refine wp_ald (i := 2) (h 78 2) rfl rfl rfl rfl (by decide) rfl ?_
                refine wp_run 1 (pc' := 45) (ls' := [.ref 74, .int 2, .int (nI k2), .int 1, .int x4, .int (nI k5), am_du]) (st' := [.ref 74, .int (h 78 2)]) rfl ?_
                refine wp_getr 78 rfl rfl rfl ?_
                refine wp_run 1 (pc' := 49) (ls' := [.ref 74, .int 2, .int (nI k2), .int 1, .int x4, .int (nI k5), am_du]) (st' := [.int 1, .ref 78, .int (h 78 2)]) rfl ?_
                refine wp_ald (i := 1) (h 78 1) rfl rfl rfl rfl (by decide) rfl ?_
                refine wp_icmp_t rfl (show (h 78 2) = (h 78 1) from (hob.symm.trans (cqe.trans hobB))) ?_
                refine wp_run 1 (pc' := 58) (ls' := [.ref 74, .int 2, .int (nI k2), .int 1, .int x4, .int (nI k5), am_du]) (st' := [.int (nI k5)]) rfl ?_
                refine wp_if_f rfl (show ¬ ((nI k5) < 0) from mt (nI_ltI (a := k5) (b := 0) (by omega) (by omega)).mp (by omega)) ?_
                refine wp_run 1 (pc' := 62) (ls' := [.ref 74, .int 2, .int (nI k2), .int 1, .int x4, .int (nI k5), am_du]) (st' := [.int (nI k2)]) rfl ?_
                refine wp_if_f rfl (show ¬ ((nI k2) < 0) from mt (nI_ltI (a := k2) (b := 0) (by omega) (by omega)).mp (by omega)) ?_
                refine wp_run 1 (pc' := 67) (ls' := [.ref 74, .int 2, .int (nI k2), .int 1, .int x4, .int (nI k5), am_du]) (st' := [.int x4]) rfl ?_
                refine wp_if rfl (fun (cq67 : x4 < 0) => ?_) (fun (cq67 : ¬ (x4 < 0)) => ?_)
                · skip
                  refine wp_run 3 (pc' := 106) (ls' := [.ref 74, .int 2, .int (nI k2), .int 1, .int x4, .int (nI k5), .int 0]) (st' := [.int 0]) rfl ?_
                  refine wp_if_t rfl (show (0 : Int32) = 0 from by decide) ?_
                  refine wp_run 1 (pc' := 115) (ls' := [.ref 74, .int 2, .int (nI k2), .int 1, .int x4, .int (nI k5), .int 0]) (st' := [.int (-1000000001)]) rfl ?_
                  refine wp_ret rfl ?_
                  show am_wp L xs _ _ _ _ 11 [.ref 74, .int 2, .int (nI k2), .int 1, .int x4, .int (nI k5), am_du, am_du, am_du] [.int (-1000000001)] (am_S b) (am_u h 73 1 (h 73 1 + 1)) _
                  refine wp_run 2 (pc' := 15) (ls' := [.ref 74, .int 2, .int (nI k2), .int 1, .int x4, .int (nI k5), .int (-1000000001), am_du, am_du]) (st' := [.int (-1000000001)]) rfl ?_
                  refine wp_if_f rfl (show ¬ (((-1000000001) : Int32) = 0) from by decide) ?_
                  refine wp_run 2 (pc' := 21) (ls' := [.ref 74, .int 2, .int (nI k2), .int 1, .int x4, .int (nI k5), .int (-1000000001), am_du, am_du]) (st' := [.int (-1000000001), .ref 74]) rfl ?_
                  refine wp_callV (o := 74) (as := [.int (-1000000001)]) (rest := []) (els := [.ref 74, .int (-1000000001)]) rfl rfl rfl rfl rfl rfl rfl rfl (by omega) ?_
                  refine sp_error1 ?_
                  show am_wp L xs _ _ _ _ 24 [.ref 74, .int 2, .int (nI k2), .int 1, .int x4, .int (nI k5), .int (-1000000001), am_du, am_du] [.int (-1000000001)] (am_S b) (am_u (am_u h 73 1 (h 73 1 + 1)) 77 1 ((am_u h 73 1 (h 73 1 + 1)) 77 1 + 1)) _
                  refine wp_ret rfl ?_
                  exact kk2 _ _ (re_err1 hR)
                · skip
                  obtain ⟨k4, hk4, ek4⟩ := pu_nonneg (Int32.not_lt.mp cq67)
                  subst ek4
                  refine wp_run 2 (pc' := 73) (ls' := [.ref 74, .int 2, .int (nI k2), .int 1, .int (nI k4), .int (nI k5), am_du]) (st' := [.ref 74, .int (nI k5)]) rfl ?_
                  refine wp_getr 79 rfl rfl rfl ?_
                  refine wp_run 1 (pc' := 77) (ls' := [.ref 74, .int 2, .int (nI k2), .int 1, .int (nI k4), .int (nI k5), am_du]) (st' := [.int 2, .ref 79, .int (nI k5)]) rfl ?_
                  refine wp_ald (i := 2) (nI l) hz2 rfl rfl rfl (by decide) rfl ?_
                  refine wp_run 2 (pc' := 80) (ls' := [.ref 74, .int 2, .int (nI k2), .int 1, .int (nI k4), .int (nI k5), am_du]) (st' := [.int ((nI l) - (nI k2)), .int (nI k5)]) rfl ?_
                  refine wp_icmp_f rfl (show ¬ (((nI l) - (nI k2)) < (nI k5)) from Int32.not_lt.mpr ((pu_suble (by omega) (by omega) hl24).mpr (by omega))) ?_
                  refine wp_run 2 (pc' := 86) (ls' := [.ref 74, .int 2, .int (nI k2), .int 1, .int (nI k4), .int (nI k5), am_du]) (st' := [.ref 74, .int (nI k5)]) rfl ?_
                  refine wp_getr 79 rfl rfl rfl ?_
                  refine wp_run 1 (pc' := 90) (ls' := [.ref 74, .int 2, .int (nI k2), .int 1, .int (nI k4), .int (nI k5), am_du]) (st' := [.int 1, .ref 79, .int (nI k5)]) rfl ?_
                  refine wp_ald (i := 1) (nI lB) hz2B rfl rfl rfl (by decide) rfl ?_
                  refine wp_run 2 (pc' := 94) (ls' := [.ref 74, .int 2, .int (nI k2), .int 1, .int (nI k4), .int (nI k5), am_du]) (st' := [.int ((nI lB) - (nI k4)), .int (nI k5)]) rfl ?_
                  refine wp_icmp_t rfl (show ((nI lB) - (nI k4)) < (nI k5) from Int32.not_le.mp (fun q => hno2 k4 k5 rfl rfl (by have := (pu_suble (by omega) (by omega) hl24B).mp q; omega))) ?_
                  refine wp_run 3 (pc' := 106) (ls' := [.ref 74, .int 2, .int (nI k2), .int 1, .int (nI k4), .int (nI k5), .int 0]) (st' := [.int 0]) rfl ?_
                  refine wp_if_t rfl (show (0 : Int32) = 0 from by decide) ?_
                  refine wp_run 1 (pc' := 115) (ls' := [.ref 74, .int 2, .int (nI k2), .int 1, .int (nI k4), .int (nI k5), .int 0]) (st' := [.int (-1000000001)]) rfl ?_
                  refine wp_ret rfl ?_
                  show am_wp L xs _ _ _ _ 11 [.ref 74, .int 2, .int (nI k2), .int 1, .int (nI k4), .int (nI k5), am_du, am_du, am_du] [.int (-1000000001)] (am_S b) (am_u h 73 1 (h 73 1 + 1)) _
                  refine wp_run 2 (pc' := 15) (ls' := [.ref 74, .int 2, .int (nI k2), .int 1, .int (nI k4), .int (nI k5), .int (-1000000001), am_du, am_du]) (st' := [.int (-1000000001)]) rfl ?_
                  refine wp_if_f rfl (show ¬ (((-1000000001) : Int32) = 0) from by decide) ?_
                  refine wp_run 2 (pc' := 21) (ls' := [.ref 74, .int 2, .int (nI k2), .int 1, .int (nI k4), .int (nI k5), .int (-1000000001), am_du, am_du]) (st' := [.int (-1000000001), .ref 74]) rfl ?_
                  refine wp_callV (o := 74) (as := [.int (-1000000001)]) (rest := []) (els := [.ref 74, .int (-1000000001)]) rfl rfl rfl rfl rfl rfl rfl rfl (by omega) ?_
                  refine sp_error1 ?_
                  show am_wp L xs _ _ _ _ 24 [.ref 74, .int 2, .int (nI k2), .int 1, .int (nI k4), .int (nI k5), .int (-1000000001), am_du, am_du] [.int (-1000000001)] (am_S b) (am_u (am_u h 73 1 (h 73 1 + 1)) 77 1 ((am_u h 73 1 (h 73 1 + 1)) 77 1 + 1)) _
                  refine wp_ret rfl ?_
                  exact kk2 _ _ (re_err1 hR)
            · skip
              intro hno1
              show am_wp L xs _ _ _ _ 85 [.ref 0, .int 2, .int x2, .int 1, .int x4, .int x5, .ref 69, .ref 67] [.int 0] (am_S b) h _
              refine wp_if_t rfl (show (0 : Int32) = 0 from by decide) ?_
              refine wp_run 2 (pc' := 102) (ls' := [.ref 0, .int 2, .int x2, .int 1, .int x4, .int x5, .ref 69, .ref 67]) (st' := [.int 1, .ref 0]) rfl ?_
              refine wp_callV (o := 0) (as := [.int 1]) (rest := []) (els := [.ref 0, .int 1]) rfl rfl rfl rfl rfl rfl rfl rfl (by omega) ?_
              refine sp_refuse1 (by omega) ?_
              show am_wp L xs _ _ _ _ 105 [.ref 0, .int 2, .int x2, .int 1, .int x4, .int x5, .ref 69, .ref 67] [.int (-1000000001)] (am_S b) (am_u h 73 1 (h 73 1 + 1)) _
              refine wp_ret rfl ?_
              refine kk _ _ _ (fun ms2 Q2 kk2 => ?_)
              refine wp_run 6 (pc' := 8) (ls' := [.ref 74, .int 2, .int x2, .int 1, .int x4, .int x5, am_du, am_du, am_du]) (st' := [.int x5, .int x4, .int 1, .int x2, .int 2, .ref 74]) rfl ?_
              refine wp_callV (o := 74) (as := [.int 2, .int x2, .int 1, .int x4, .int x5]) (rest := []) (els := [.ref 74, .int 2, .int x2, .int 1, .int x4, .int x5, am_du]) rfl rfl rfl rfl rfl rfl rfl rfl (by omega) ?_
              refine wp_run 1 (pc' := 1) (ls' := [.ref 74, .int 2, .int x2, .int 1, .int x4, .int x5, am_du]) (st' := [.int 2]) rfl ?_
              refine wp_callS (as := [.int 2]) (rest := []) (els := [.int 2]) rfl rfl rfl rfl rfl rfl rfl rfl (by omega) ?_
              refine sp_m_isSheet (by omega) (fun _ _ _ => ?_) (fun q => absurd rfl (q 2 (by omega)))
              show am_wp L xs _ _ _ _ 4 [.ref 74, .int 2, .int x2, .int 1, .int x4, .int x5, am_du] [.int 1] (am_S b) (am_u h 73 1 (h 73 1 + 1)) _
              refine wp_if_f rfl (show ¬ ((1 : Int32) = 0) from by decide) ?_
              refine wp_run 1 (pc' := 8) (ls' := [.ref 74, .int 2, .int x2, .int 1, .int x4, .int x5, am_du]) (st' := [.int 1]) rfl ?_
              refine wp_callS (as := [.int 1]) (rest := []) (els := [.int 1]) rfl rfl rfl rfl rfl rfl rfl rfl (by omega) ?_
              refine sp_m_isSheet (by omega) (fun _ _ _ => ?_) (fun q => absurd rfl (q 1 (by omega)))
              show am_wp L xs _ _ _ _ 11 [.ref 74, .int 2, .int x2, .int 1, .int x4, .int x5, am_du] [.int 1] (am_S b) (am_u h 73 1 (h 73 1 + 1)) _
              refine wp_if_t rfl (show ¬ (1 : Int32) = 0 from by decide) ?_
              refine wp_run 1 (pc' := 18) (ls' := [.ref 74, .int 2, .int x2, .int 1, .int x4, .int x5, am_du]) (st' := [.ref 74]) rfl ?_
              refine wp_getr 78 rfl rfl rfl ?_
              refine wp_run 1 (pc' := 22) (ls' := [.ref 74, .int 2, .int x2, .int 1, .int x4, .int x5, am_du]) (st' := [.int 2, .ref 78]) rfl ?_
              refine wp_ald (i := 2) (h 78 2) rfl rfl rfl rfl (by decide) rfl ?_
              refine wp_if_f rfl (show ¬ ((h 78 2) = 0) from (fun q => cqz0 (hob.trans q))) ?_
              refine wp_run 1 (pc' := 27) (ls' := [.ref 74, .int 2, .int x2, .int 1, .int x4, .int x5, am_du]) (st' := [.ref 74]) rfl ?_
              refine wp_getr 78 rfl rfl rfl ?_
              refine wp_run 1 (pc' := 31) (ls' := [.ref 74, .int 2, .int x2, .int 1, .int x4, .int x5, am_du]) (st' := [.int 1, .ref 78]) rfl ?_
              refine wp_ald (i := 1) (h 78 1) rfl rfl rfl rfl (by decide) rfl ?_
              refine wp_if_t rfl (show ¬ (h 78 1) = 0 from (fun q => cqz1 (hobB.trans q))) ?_
              refine wp_run 1 (pc' := 39) (ls' := [.ref 74, .int 2, .int x2, .int 1, .int x4, .int x5, am_du]) (st' := [.ref 74]) rfl ?_
              refine wp_getr 78 rfl rfl rfl ?_
              refine wp_run 1 (pc' := 43) (ls' := [.ref 74, .int 2, .int x2, .int 1, .int x4, .int x5, am_du]) (st' := [.int 2, .ref 78]) rfl ?_
              refine wp_ald (i := 2) (h 78 2) rfl rfl rfl rfl (by decide) rfl ?_
              refine wp_run 1 (pc' := 45) (ls' := [.ref 74, .int 2, .int x2, .int 1, .int x4, .int x5, am_du]) (st' := [.ref 74, .int (h 78 2)]) rfl ?_
              refine wp_getr 78 rfl rfl rfl ?_
              refine wp_run 1 (pc' := 49) (ls' := [.ref 74, .int 2, .int x2, .int 1, .int x4, .int x5, am_du]) (st' := [.int 1, .ref 78, .int (h 78 2)]) rfl ?_
              refine wp_ald (i := 1) (h 78 1) rfl rfl rfl rfl (by decide) rfl ?_
              refine wp_icmp_t rfl (show (h 78 2) = (h 78 1) from (hob.symm.trans (cqe.trans hobB))) ?_
              refine wp_run 1 (pc' := 58) (ls' := [.ref 74, .int 2, .int x2, .int 1, .int x4, .int x5, am_du]) (st' := [.int x5]) rfl ?_
              refine wp_if rfl (fun (cq58 : x5 < 0) => ?_) (fun (cq58 : ¬ (x5 < 0)) => ?_)
              · skip
                refine wp_run 3 (pc' := 106) (ls' := [.ref 74, .int 2, .int x2, .int 1, .int x4, .int x5, .int 0]) (st' := [.int 0]) rfl ?_
                refine wp_if_t rfl (show (0 : Int32) = 0 from by decide) ?_
                refine wp_run 1 (pc' := 115) (ls' := [.ref 74, .int 2, .int x2, .int 1, .int x4, .int x5, .int 0]) (st' := [.int (-1000000001)]) rfl ?_
                refine wp_ret rfl ?_
                show am_wp L xs _ _ _ _ 11 [.ref 74, .int 2, .int x2, .int 1, .int x4, .int x5, am_du, am_du, am_du] [.int (-1000000001)] (am_S b) (am_u h 73 1 (h 73 1 + 1)) _
                refine wp_run 2 (pc' := 15) (ls' := [.ref 74, .int 2, .int x2, .int 1, .int x4, .int x5, .int (-1000000001), am_du, am_du]) (st' := [.int (-1000000001)]) rfl ?_
                refine wp_if_f rfl (show ¬ (((-1000000001) : Int32) = 0) from by decide) ?_
                refine wp_run 2 (pc' := 21) (ls' := [.ref 74, .int 2, .int x2, .int 1, .int x4, .int x5, .int (-1000000001), am_du, am_du]) (st' := [.int (-1000000001), .ref 74]) rfl ?_
                refine wp_callV (o := 74) (as := [.int (-1000000001)]) (rest := []) (els := [.ref 74, .int (-1000000001)]) rfl rfl rfl rfl rfl rfl rfl rfl (by omega) ?_
                refine sp_error1 ?_
                show am_wp L xs _ _ _ _ 24 [.ref 74, .int 2, .int x2, .int 1, .int x4, .int x5, .int (-1000000001), am_du, am_du] [.int (-1000000001)] (am_S b) (am_u (am_u h 73 1 (h 73 1 + 1)) 77 1 ((am_u h 73 1 (h 73 1 + 1)) 77 1 + 1)) _
                refine wp_ret rfl ?_
                exact kk2 _ _ (re_err1 hR)
              · skip
                obtain ⟨k5, hk5, ek5⟩ := pu_nonneg (Int32.not_lt.mp cq58)
                subst ek5
                refine wp_run 1 (pc' := 62) (ls' := [.ref 74, .int 2, .int x2, .int 1, .int x4, .int (nI k5), am_du]) (st' := [.int x2]) rfl ?_
                refine wp_if rfl (fun (cq62 : x2 < 0) => ?_) (fun (cq62 : ¬ (x2 < 0)) => ?_)
                · skip
                  refine wp_run 3 (pc' := 106) (ls' := [.ref 74, .int 2, .int x2, .int 1, .int x4, .int (nI k5), .int 0]) (st' := [.int 0]) rfl ?_
                  refine wp_if_t rfl (show (0 : Int32) = 0 from by decide) ?_
                  refine wp_run 1 (pc' := 115) (ls' := [.ref 74, .int 2, .int x2, .int 1, .int x4, .int (nI k5), .int 0]) (st' := [.int (-1000000001)]) rfl ?_
                  refine wp_ret rfl ?_
                  show am_wp L xs _ _ _ _ 11 [.ref 74, .int 2, .int x2, .int 1, .int x4, .int (nI k5), am_du, am_du, am_du] [.int (-1000000001)] (am_S b) (am_u h 73 1 (h 73 1 + 1)) _
                  refine wp_run 2 (pc' := 15) (ls' := [.ref 74, .int 2, .int x2, .int 1, .int x4, .int (nI k5), .int (-1000000001), am_du, am_du]) (st' := [.int (-1000000001)]) rfl ?_
                  refine wp_if_f rfl (show ¬ (((-1000000001) : Int32) = 0) from by decide) ?_
                  refine wp_run 2 (pc' := 21) (ls' := [.ref 74, .int 2, .int x2, .int 1, .int x4, .int (nI k5), .int (-1000000001), am_du, am_du]) (st' := [.int (-1000000001), .ref 74]) rfl ?_
                  refine wp_callV (o := 74) (as := [.int (-1000000001)]) (rest := []) (els := [.ref 74, .int (-1000000001)]) rfl rfl rfl rfl rfl rfl rfl rfl (by omega) ?_
                  refine sp_error1 ?_
                  show am_wp L xs _ _ _ _ 24 [.ref 74, .int 2, .int x2, .int 1, .int x4, .int (nI k5), .int (-1000000001), am_du, am_du] [.int (-1000000001)] (am_S b) (am_u (am_u h 73 1 (h 73 1 + 1)) 77 1 ((am_u h 73 1 (h 73 1 + 1)) 77 1 + 1)) _
                  refine wp_ret rfl ?_
                  exact kk2 _ _ (re_err1 hR)
                · skip
                  obtain ⟨k2, hk2, ek2⟩ := pu_nonneg (Int32.not_lt.mp cq62)
                  subst ek2
                  refine wp_run 1 (pc' := 67) (ls' := [.ref 74, .int 2, .int (nI k2), .int 1, .int x4, .int (nI k5), am_du]) (st' := [.int x4]) rfl ?_
                  refine wp_if rfl (fun (cq67 : x4 < 0) => ?_) (fun (cq67 : ¬ (x4 < 0)) => ?_)
                  · skip
                    refine wp_run 3 (pc' := 106) (ls' := [.ref 74, .int 2, .int (nI k2), .int 1, .int x4, .int (nI k5), .int 0]) (st' := [.int 0]) rfl ?_
                    refine wp_if_t rfl (show (0 : Int32) = 0 from by decide) ?_
                    refine wp_run 1 (pc' := 115) (ls' := [.ref 74, .int 2, .int (nI k2), .int 1, .int x4, .int (nI k5), .int 0]) (st' := [.int (-1000000001)]) rfl ?_
                    refine wp_ret rfl ?_
                    show am_wp L xs _ _ _ _ 11 [.ref 74, .int 2, .int (nI k2), .int 1, .int x4, .int (nI k5), am_du, am_du, am_du] [.int (-1000000001)] (am_S b) (am_u h 73 1 (h 73 1 + 1)) _
                    refine wp_run 2 (pc' := 15) (ls' := [.ref 74, .int 2, .int (nI k2), .int 1, .int x4, .int (nI k5), .int (-1000000001), am_du, am_du]) (st' := [.int (-1000000001)]) rfl ?_
                    refine wp_if_f rfl (show ¬ (((-1000000001) : Int32) = 0) from by decide) ?_
                    refine wp_run 2 (pc' := 21) (ls' := [.ref 74, .int 2, .int (nI k2), .int 1, .int x4, .int (nI k5), .int (-1000000001), am_du, am_du]) (st' := [.int (-1000000001), .ref 74]) rfl ?_
                    refine wp_callV (o := 74) (as := [.int (-1000000001)]) (rest := []) (els := [.ref 74, .int (-1000000001)]) rfl rfl rfl rfl rfl rfl rfl rfl (by omega) ?_
                    refine sp_error1 ?_
                    show am_wp L xs _ _ _ _ 24 [.ref 74, .int 2, .int (nI k2), .int 1, .int x4, .int (nI k5), .int (-1000000001), am_du, am_du] [.int (-1000000001)] (am_S b) (am_u (am_u h 73 1 (h 73 1 + 1)) 77 1 ((am_u h 73 1 (h 73 1 + 1)) 77 1 + 1)) _
                    refine wp_ret rfl ?_
                    exact kk2 _ _ (re_err1 hR)
                  · skip
                    obtain ⟨k4, hk4, ek4⟩ := pu_nonneg (Int32.not_lt.mp cq67)
                    subst ek4
                    refine wp_run 2 (pc' := 73) (ls' := [.ref 74, .int 2, .int (nI k2), .int 1, .int (nI k4), .int (nI k5), am_du]) (st' := [.ref 74, .int (nI k5)]) rfl ?_
                    refine wp_getr 79 rfl rfl rfl ?_
                    refine wp_run 1 (pc' := 77) (ls' := [.ref 74, .int 2, .int (nI k2), .int 1, .int (nI k4), .int (nI k5), am_du]) (st' := [.int 2, .ref 79, .int (nI k5)]) rfl ?_
                    refine wp_ald (i := 2) (nI l) hz2 rfl rfl rfl (by decide) rfl ?_
                    refine wp_run 2 (pc' := 80) (ls' := [.ref 74, .int 2, .int (nI k2), .int 1, .int (nI k4), .int (nI k5), am_du]) (st' := [.int ((nI l) - (nI k2)), .int (nI k5)]) rfl ?_
                    refine wp_icmp_t rfl (show ((nI l) - (nI k2)) < (nI k5) from Int32.not_le.mp (fun q => hno1 k2 k5 rfl rfl (by have := (pu_suble (by omega) (by omega) hl24).mp q; omega))) ?_
                    refine wp_run 3 (pc' := 106) (ls' := [.ref 74, .int 2, .int (nI k2), .int 1, .int (nI k4), .int (nI k5), .int 0]) (st' := [.int 0]) rfl ?_
                    refine wp_if_t rfl (show (0 : Int32) = 0 from by decide) ?_
                    refine wp_run 1 (pc' := 115) (ls' := [.ref 74, .int 2, .int (nI k2), .int 1, .int (nI k4), .int (nI k5), .int 0]) (st' := [.int (-1000000001)]) rfl ?_
                    refine wp_ret rfl ?_
                    show am_wp L xs _ _ _ _ 11 [.ref 74, .int 2, .int (nI k2), .int 1, .int (nI k4), .int (nI k5), am_du, am_du, am_du] [.int (-1000000001)] (am_S b) (am_u h 73 1 (h 73 1 + 1)) _
                    refine wp_run 2 (pc' := 15) (ls' := [.ref 74, .int 2, .int (nI k2), .int 1, .int (nI k4), .int (nI k5), .int (-1000000001), am_du, am_du]) (st' := [.int (-1000000001)]) rfl ?_
                    refine wp_if_f rfl (show ¬ (((-1000000001) : Int32) = 0) from by decide) ?_
                    refine wp_run 2 (pc' := 21) (ls' := [.ref 74, .int 2, .int (nI k2), .int 1, .int (nI k4), .int (nI k5), .int (-1000000001), am_du, am_du]) (st' := [.int (-1000000001), .ref 74]) rfl ?_
                    refine wp_callV (o := 74) (as := [.int (-1000000001)]) (rest := []) (els := [.ref 74, .int (-1000000001)]) rfl rfl rfl rfl rfl rfl rfl rfl (by omega) ?_
                    refine sp_error1 ?_
                    show am_wp L xs _ _ _ _ 24 [.ref 74, .int 2, .int (nI k2), .int 1, .int (nI k4), .int (nI k5), .int (-1000000001), am_du, am_du] [.int (-1000000001)] (am_S b) (am_u (am_u h 73 1 (h 73 1 + 1)) 77 1 ((am_u h 73 1 (h 73 1 + 1)) 77 1 + 1)) _
                    refine wp_ret rfl ?_
                    exact kk2 _ _ (re_err1 hR)
          · skip
            refine wp_run 2 (pc' := 73) (ls' := [.ref 0, .int 2, .int x2, .int 1, .int x4, .int x5, .ref 69, .ref 67]) (st' := [.int 5, .ref 0]) rfl ?_
            refine wp_callV (o := 0) (as := [.int 5]) (rest := []) (els := [.ref 0, .int 5]) rfl rfl rfl rfl rfl rfl rfl rfl (by omega) ?_
            refine sp_refuse5 (by omega) ?_
            show am_wp L xs _ _ _ _ 76 [.ref 0, .int 2, .int x2, .int 1, .int x4, .int x5, .ref 69, .ref 67] [.int (-1000000005)] (am_S b) (am_u h 73 5 (h 73 5 + 1)) _
            refine wp_ret rfl ?_
            refine kk _ _ _ (fun ms2 Q2 kk2 => ?_)
            refine wp_run 6 (pc' := 8) (ls' := [.ref 74, .int 2, .int x2, .int 1, .int x4, .int x5, am_du, am_du, am_du]) (st' := [.int x5, .int x4, .int 1, .int x2, .int 2, .ref 74]) rfl ?_
            refine wp_callV (o := 74) (as := [.int 2, .int x2, .int 1, .int x4, .int x5]) (rest := []) (els := [.ref 74, .int 2, .int x2, .int 1, .int x4, .int x5, am_du]) rfl rfl rfl rfl rfl rfl rfl rfl (by omega) ?_
            refine wp_run 1 (pc' := 1) (ls' := [.ref 74, .int 2, .int x2, .int 1, .int x4, .int x5, am_du]) (st' := [.int 2]) rfl ?_
            refine wp_callS (as := [.int 2]) (rest := []) (els := [.int 2]) rfl rfl rfl rfl rfl rfl rfl rfl (by omega) ?_
            refine sp_m_isSheet (by omega) (fun _ _ _ => ?_) (fun q => absurd rfl (q 2 (by omega)))
            show am_wp L xs _ _ _ _ 4 [.ref 74, .int 2, .int x2, .int 1, .int x4, .int x5, am_du] [.int 1] (am_S b) (am_u h 73 5 (h 73 5 + 1)) _
            refine wp_if_f rfl (show ¬ ((1 : Int32) = 0) from by decide) ?_
            refine wp_run 1 (pc' := 8) (ls' := [.ref 74, .int 2, .int x2, .int 1, .int x4, .int x5, am_du]) (st' := [.int 1]) rfl ?_
            refine wp_callS (as := [.int 1]) (rest := []) (els := [.int 1]) rfl rfl rfl rfl rfl rfl rfl rfl (by omega) ?_
            refine sp_m_isSheet (by omega) (fun _ _ _ => ?_) (fun q => absurd rfl (q 1 (by omega)))
            show am_wp L xs _ _ _ _ 11 [.ref 74, .int 2, .int x2, .int 1, .int x4, .int x5, am_du] [.int 1] (am_S b) (am_u h 73 5 (h 73 5 + 1)) _
            refine wp_if_t rfl (show ¬ (1 : Int32) = 0 from by decide) ?_
            refine wp_run 1 (pc' := 18) (ls' := [.ref 74, .int 2, .int x2, .int 1, .int x4, .int x5, am_du]) (st' := [.ref 74]) rfl ?_
            refine wp_getr 78 rfl rfl rfl ?_
            refine wp_run 1 (pc' := 22) (ls' := [.ref 74, .int 2, .int x2, .int 1, .int x4, .int x5, am_du]) (st' := [.int 2, .ref 78]) rfl ?_
            refine wp_ald (i := 2) (h 78 2) rfl rfl rfl rfl (by decide) rfl ?_
            refine wp_if_f rfl (show ¬ ((h 78 2) = 0) from (fun q => cqz0 (hob.trans q))) ?_
            refine wp_run 1 (pc' := 27) (ls' := [.ref 74, .int 2, .int x2, .int 1, .int x4, .int x5, am_du]) (st' := [.ref 74]) rfl ?_
            refine wp_getr 78 rfl rfl rfl ?_
            refine wp_run 1 (pc' := 31) (ls' := [.ref 74, .int 2, .int x2, .int 1, .int x4, .int x5, am_du]) (st' := [.int 1, .ref 78]) rfl ?_
            refine wp_ald (i := 1) (h 78 1) rfl rfl rfl rfl (by decide) rfl ?_
            refine wp_if_t rfl (show ¬ (h 78 1) = 0 from (fun q => cqz1 (hobB.trans q))) ?_
            refine wp_run 1 (pc' := 39) (ls' := [.ref 74, .int 2, .int x2, .int 1, .int x4, .int x5, am_du]) (st' := [.ref 74]) rfl ?_
            refine wp_getr 78 rfl rfl rfl ?_
            refine wp_run 1 (pc' := 43) (ls' := [.ref 74, .int 2, .int x2, .int 1, .int x4, .int x5, am_du]) (st' := [.int 2, .ref 78]) rfl ?_
            refine wp_ald (i := 2) (h 78 2) rfl rfl rfl rfl (by decide) rfl ?_
            refine wp_run 1 (pc' := 45) (ls' := [.ref 74, .int 2, .int x2, .int 1, .int x4, .int x5, am_du]) (st' := [.ref 74, .int (h 78 2)]) rfl ?_
            refine wp_getr 78 rfl rfl rfl ?_
            refine wp_run 1 (pc' := 49) (ls' := [.ref 74, .int 2, .int x2, .int 1, .int x4, .int x5, am_du]) (st' := [.int 1, .ref 78, .int (h 78 2)]) rfl ?_
            refine wp_ald (i := 1) (h 78 1) rfl rfl rfl rfl (by decide) rfl ?_
            refine wp_icmp_f rfl (show ¬ ((h 78 2) = (h 78 1)) from (fun q => cqe (hob.trans (q.trans hobB.symm)))) ?_
            refine wp_run 1 (pc' := 55) (ls' := [.ref 74, .int 2, .int x2, .int 1, .int x4, .int x5, am_du]) (st' := [.int (-1000000005)]) rfl ?_
            refine wp_ret rfl ?_
            show am_wp L xs _ _ _ _ 11 [.ref 74, .int 2, .int x2, .int 1, .int x4, .int x5, am_du, am_du, am_du] [.int (-1000000005)] (am_S b) (am_u h 73 5 (h 73 5 + 1)) _
            refine wp_run 2 (pc' := 15) (ls' := [.ref 74, .int 2, .int x2, .int 1, .int x4, .int x5, .int (-1000000005), am_du, am_du]) (st' := [.int (-1000000005)]) rfl ?_
            refine wp_if_f rfl (show ¬ (((-1000000005) : Int32) = 0) from by decide) ?_
            refine wp_run 2 (pc' := 21) (ls' := [.ref 74, .int 2, .int x2, .int 1, .int x4, .int x5, .int (-1000000005), am_du, am_du]) (st' := [.int (-1000000005), .ref 74]) rfl ?_
            refine wp_callV (o := 74) (as := [.int (-1000000005)]) (rest := []) (els := [.ref 74, .int (-1000000005)]) rfl rfl rfl rfl rfl rfl rfl rfl (by omega) ?_
            refine sp_error5 ?_
            show am_wp L xs _ _ _ _ 24 [.ref 74, .int 2, .int x2, .int 1, .int x4, .int x5, .int (-1000000005), am_du, am_du] [.int (-1000000005)] (am_S b) (am_u (am_u h 73 5 (h 73 5 + 1)) 77 5 ((am_u h 73 5 (h 73 5 + 1)) 77 5 + 1)) _
            refine wp_ret rfl ?_
            exact kk2 _ _ (re_err5 hR)
        · skip
          replace cqz1 := Decidable.not_not.mp cqz1
          refine wp_run 2 (pc' := 12) (ls' := [.ref 67]) (st' := [.int 1]) rfl ?_
          refine wp_retz rfl (Or.inr rfl) ?_
          show am_wp L xs _ _ _ _ 49 [.ref 0, .int 2, .int x2, .int 1, .int x4, .int x5, .ref 69, .ref 67] [.int 1] (am_S b) h _
          refine wp_if_f rfl (show ¬ ((1 : Int32) = 0) from by decide) ?_
          refine wp_run 2 (pc' := 54) (ls' := [.ref 0, .int 2, .int x2, .int 1, .int x4, .int x5, .ref 69, .ref 67]) (st' := [.int 2, .ref 0]) rfl ?_
          refine wp_callV (o := 0) (as := [.int 2]) (rest := []) (els := [.ref 0, .int 2]) rfl rfl rfl rfl rfl rfl rfl rfl (by omega) ?_
          refine sp_refuse2 (by omega) ?_
          show am_wp L xs _ _ _ _ 57 [.ref 0, .int 2, .int x2, .int 1, .int x4, .int x5, .ref 69, .ref 67] [.int (-1000000002)] (am_S b) (am_u h 73 2 (h 73 2 + 1)) _
          refine wp_ret rfl ?_
          refine kk _ _ _ (fun ms2 Q2 kk2 => ?_)
          refine wp_run 6 (pc' := 8) (ls' := [.ref 74, .int 2, .int x2, .int 1, .int x4, .int x5, am_du, am_du, am_du]) (st' := [.int x5, .int x4, .int 1, .int x2, .int 2, .ref 74]) rfl ?_
          refine wp_callV (o := 74) (as := [.int 2, .int x2, .int 1, .int x4, .int x5]) (rest := []) (els := [.ref 74, .int 2, .int x2, .int 1, .int x4, .int x5, am_du]) rfl rfl rfl rfl rfl rfl rfl rfl (by omega) ?_
          refine wp_run 1 (pc' := 1) (ls' := [.ref 74, .int 2, .int x2, .int 1, .int x4, .int x5, am_du]) (st' := [.int 2]) rfl ?_
          refine wp_callS (as := [.int 2]) (rest := []) (els := [.int 2]) rfl rfl rfl rfl rfl rfl rfl rfl (by omega) ?_
          refine sp_m_isSheet (by omega) (fun _ _ _ => ?_) (fun q => absurd rfl (q 2 (by omega)))
          show am_wp L xs _ _ _ _ 4 [.ref 74, .int 2, .int x2, .int 1, .int x4, .int x5, am_du] [.int 1] (am_S b) (am_u h 73 2 (h 73 2 + 1)) _
          refine wp_if_f rfl (show ¬ ((1 : Int32) = 0) from by decide) ?_
          refine wp_run 1 (pc' := 8) (ls' := [.ref 74, .int 2, .int x2, .int 1, .int x4, .int x5, am_du]) (st' := [.int 1]) rfl ?_
          refine wp_callS (as := [.int 1]) (rest := []) (els := [.int 1]) rfl rfl rfl rfl rfl rfl rfl rfl (by omega) ?_
          refine sp_m_isSheet (by omega) (fun _ _ _ => ?_) (fun q => absurd rfl (q 1 (by omega)))
          show am_wp L xs _ _ _ _ 11 [.ref 74, .int 2, .int x2, .int 1, .int x4, .int x5, am_du] [.int 1] (am_S b) (am_u h 73 2 (h 73 2 + 1)) _
          refine wp_if_t rfl (show ¬ (1 : Int32) = 0 from by decide) ?_
          refine wp_run 1 (pc' := 18) (ls' := [.ref 74, .int 2, .int x2, .int 1, .int x4, .int x5, am_du]) (st' := [.ref 74]) rfl ?_
          refine wp_getr 78 rfl rfl rfl ?_
          refine wp_run 1 (pc' := 22) (ls' := [.ref 74, .int 2, .int x2, .int 1, .int x4, .int x5, am_du]) (st' := [.int 2, .ref 78]) rfl ?_
          refine wp_ald (i := 2) (h 78 2) rfl rfl rfl rfl (by decide) rfl ?_
          refine wp_if_f rfl (show ¬ ((h 78 2) = 0) from (fun q => cqz0 (hob.trans q))) ?_
          refine wp_run 1 (pc' := 27) (ls' := [.ref 74, .int 2, .int x2, .int 1, .int x4, .int x5, am_du]) (st' := [.ref 74]) rfl ?_
          refine wp_getr 78 rfl rfl rfl ?_
          refine wp_run 1 (pc' := 31) (ls' := [.ref 74, .int 2, .int x2, .int 1, .int x4, .int x5, am_du]) (st' := [.int 1, .ref 78]) rfl ?_
          refine wp_ald (i := 1) (h 78 1) rfl rfl rfl rfl (by decide) rfl ?_
          refine wp_if_f rfl (show ¬ (¬ (h 78 1) = 0) from (fun q => q (hobB.symm.trans cqz1))) ?_
          refine wp_run 1 (pc' := 37) (ls' := [.ref 74, .int 2, .int x2, .int 1, .int x4, .int x5, am_du]) (st' := [.int (-1000000002)]) rfl ?_
          refine wp_ret rfl ?_
          show am_wp L xs _ _ _ _ 11 [.ref 74, .int 2, .int x2, .int 1, .int x4, .int x5, am_du, am_du, am_du] [.int (-1000000002)] (am_S b) (am_u h 73 2 (h 73 2 + 1)) _
          refine wp_run 2 (pc' := 15) (ls' := [.ref 74, .int 2, .int x2, .int 1, .int x4, .int x5, .int (-1000000002), am_du, am_du]) (st' := [.int (-1000000002)]) rfl ?_
          refine wp_if_f rfl (show ¬ (((-1000000002) : Int32) = 0) from by decide) ?_
          refine wp_run 2 (pc' := 21) (ls' := [.ref 74, .int 2, .int x2, .int 1, .int x4, .int x5, .int (-1000000002), am_du, am_du]) (st' := [.int (-1000000002), .ref 74]) rfl ?_
          refine wp_callV (o := 74) (as := [.int (-1000000002)]) (rest := []) (els := [.ref 74, .int (-1000000002)]) rfl rfl rfl rfl rfl rfl rfl rfl (by omega) ?_
          refine sp_error2 ?_
          show am_wp L xs _ _ _ _ 24 [.ref 74, .int 2, .int x2, .int 1, .int x4, .int x5, .int (-1000000002), am_du, am_du] [.int (-1000000002)] (am_S b) (am_u (am_u h 73 2 (h 73 2 + 1)) 77 2 ((am_u h 73 2 (h 73 2 + 1)) 77 2 + 1)) _
          refine wp_ret rfl ?_
          exact kk2 _ _ (re_err2 hR)
      · skip
        replace cqz0 := Decidable.not_not.mp cqz0
        refine wp_run 2 (pc' := 12) (ls' := [.ref 69]) (st' := [.int 1]) rfl ?_
        refine wp_retz rfl (Or.inr rfl) ?_
        show am_wp L xs _ _ _ _ 41 [.ref 0, .int 2, .int x2, .int 1, .int x4, .int x5, .ref 69, .ref 67] [.int 1] (am_S b) h _
        refine wp_if_t rfl (show ¬ (1 : Int32) = 0 from by decide) ?_
        refine wp_run 2 (pc' := 54) (ls' := [.ref 0, .int 2, .int x2, .int 1, .int x4, .int x5, .ref 69, .ref 67]) (st' := [.int 2, .ref 0]) rfl ?_
        refine wp_callV (o := 0) (as := [.int 2]) (rest := []) (els := [.ref 0, .int 2]) rfl rfl rfl rfl rfl rfl rfl rfl (by omega) ?_
        refine sp_refuse2 (by omega) ?_
        show am_wp L xs _ _ _ _ 57 [.ref 0, .int 2, .int x2, .int 1, .int x4, .int x5, .ref 69, .ref 67] [.int (-1000000002)] (am_S b) (am_u h 73 2 (h 73 2 + 1)) _
        refine wp_ret rfl ?_
        refine kk _ _ _ (fun ms2 Q2 kk2 => ?_)
        refine wp_run 6 (pc' := 8) (ls' := [.ref 74, .int 2, .int x2, .int 1, .int x4, .int x5, am_du, am_du, am_du]) (st' := [.int x5, .int x4, .int 1, .int x2, .int 2, .ref 74]) rfl ?_
        refine wp_callV (o := 74) (as := [.int 2, .int x2, .int 1, .int x4, .int x5]) (rest := []) (els := [.ref 74, .int 2, .int x2, .int 1, .int x4, .int x5, am_du]) rfl rfl rfl rfl rfl rfl rfl rfl (by omega) ?_
        refine wp_run 1 (pc' := 1) (ls' := [.ref 74, .int 2, .int x2, .int 1, .int x4, .int x5, am_du]) (st' := [.int 2]) rfl ?_
        refine wp_callS (as := [.int 2]) (rest := []) (els := [.int 2]) rfl rfl rfl rfl rfl rfl rfl rfl (by omega) ?_
        refine sp_m_isSheet (by omega) (fun _ _ _ => ?_) (fun q => absurd rfl (q 2 (by omega)))
        show am_wp L xs _ _ _ _ 4 [.ref 74, .int 2, .int x2, .int 1, .int x4, .int x5, am_du] [.int 1] (am_S b) (am_u h 73 2 (h 73 2 + 1)) _
        refine wp_if_f rfl (show ¬ ((1 : Int32) = 0) from by decide) ?_
        refine wp_run 1 (pc' := 8) (ls' := [.ref 74, .int 2, .int x2, .int 1, .int x4, .int x5, am_du]) (st' := [.int 1]) rfl ?_
        refine wp_callS (as := [.int 1]) (rest := []) (els := [.int 1]) rfl rfl rfl rfl rfl rfl rfl rfl (by omega) ?_
        refine sp_m_isSheet (by omega) (fun _ _ _ => ?_) (fun q => absurd rfl (q 1 (by omega)))
        show am_wp L xs _ _ _ _ 11 [.ref 74, .int 2, .int x2, .int 1, .int x4, .int x5, am_du] [.int 1] (am_S b) (am_u h 73 2 (h 73 2 + 1)) _
        refine wp_if_t rfl (show ¬ (1 : Int32) = 0 from by decide) ?_
        refine wp_run 1 (pc' := 18) (ls' := [.ref 74, .int 2, .int x2, .int 1, .int x4, .int x5, am_du]) (st' := [.ref 74]) rfl ?_
        refine wp_getr 78 rfl rfl rfl ?_
        refine wp_run 1 (pc' := 22) (ls' := [.ref 74, .int 2, .int x2, .int 1, .int x4, .int x5, am_du]) (st' := [.int 2, .ref 78]) rfl ?_
        refine wp_ald (i := 2) (h 78 2) rfl rfl rfl rfl (by decide) rfl ?_
        refine wp_if_t rfl (show (h 78 2) = 0 from (hob.symm.trans cqz0)) ?_
        refine wp_run 1 (pc' := 37) (ls' := [.ref 74, .int 2, .int x2, .int 1, .int x4, .int x5, am_du]) (st' := [.int (-1000000002)]) rfl ?_
        refine wp_ret rfl ?_
        show am_wp L xs _ _ _ _ 11 [.ref 74, .int 2, .int x2, .int 1, .int x4, .int x5, am_du, am_du, am_du] [.int (-1000000002)] (am_S b) (am_u h 73 2 (h 73 2 + 1)) _
        refine wp_run 2 (pc' := 15) (ls' := [.ref 74, .int 2, .int x2, .int 1, .int x4, .int x5, .int (-1000000002), am_du, am_du]) (st' := [.int (-1000000002)]) rfl ?_
        refine wp_if_f rfl (show ¬ (((-1000000002) : Int32) = 0) from by decide) ?_
        refine wp_run 2 (pc' := 21) (ls' := [.ref 74, .int 2, .int x2, .int 1, .int x4, .int x5, .int (-1000000002), am_du, am_du]) (st' := [.int (-1000000002), .ref 74]) rfl ?_
        refine wp_callV (o := 74) (as := [.int (-1000000002)]) (rest := []) (els := [.ref 74, .int (-1000000002)]) rfl rfl rfl rfl rfl rfl rfl rfl (by omega) ?_
        refine sp_error2 ?_
        show am_wp L xs _ _ _ _ 24 [.ref 74, .int 2, .int x2, .int 1, .int x4, .int x5, .int (-1000000002), am_du, am_du] [.int (-1000000002)] (am_S b) (am_u (am_u h 73 2 (h 73 2 + 1)) 77 2 ((am_u h 73 2 (h 73 2 + 1)) 77 2 + 1)) _
        refine wp_ret rfl ?_
        exact kk2 _ _ (re_err2 hR)
    · skip
      intro ex3
      subst ex3
      show am_wp L xs _ _ _ _ 11 [.ref 0, .int 2, .int x2, .int 2, .int x4, .int x5, am_du, am_du] [.int 1] (am_S b) h _
      refine wp_if_t rfl (show ¬ (1 : Int32) = 0 from by decide) ?_
      obtain ⟨l, hl24, ho2, hz2, hob, hbb, hri⟩ := id hS2
      refine wp_run 1 (pc' := 21) (ls' := [.ref 0, .int 2, .int x2, .int 2, .int x4, .int x5, am_du, am_du]) (st' := [.ref 0]) rfl ?_
      refine wp_getr 64 rfl rfl rfl ?_
      refine wp_run 1 (pc' := 25) (ls' := [.ref 0, .int 2, .int x2, .int 2, .int x4, .int x5, am_du, am_du]) (st' := [.int 2, .ref 64]) rfl ?_
      refine wp_aald (r := 69) rfl rfl (Or.inr rfl) rfl (by decide) rfl rfl ?_
      refine wp_run 2 (pc' := 29) (ls' := [.ref 0, .int 2, .int x2, .int 2, .int x4, .int x5, .ref 69, am_du]) (st' := [.ref 0]) rfl ?_
      refine wp_getr 64 rfl rfl rfl ?_
      refine wp_run 1 (pc' := 33) (ls' := [.ref 0, .int 2, .int x2, .int 2, .int x4, .int x5, .ref 69, am_du]) (st' := [.int 2, .ref 64]) rfl ?_
      refine wp_aald (r := 69) rfl rfl (Or.inr rfl) rfl (by decide) rfl rfl ?_
      refine wp_run 2 (pc' := 38) (ls' := [.ref 0, .int 2, .int x2, .int 2, .int x4, .int x5, .ref 69, .ref 69]) (st' := [.ref 69]) rfl ?_
      refine wp_callV (o := 69) (as := []) (rest := []) (els := [.ref 69]) rfl rfl rfl rfl rfl rfl rfl rfl (by omega) ?_
      refine wp_run 1 (pc' := 1) (ls' := [.ref 69]) (st' := [.ref 69]) rfl ?_
      refine wp_geti (a := 1) (h 69 1) rfl rfl rfl rfl ?_
      refine wp_if rfl (fun (cqz0 : ¬ (h 69 1) = 0) => ?_) (fun (cqz0 : ¬ (¬ (h 69 1) = 0)) => ?_)
      · skip
        refine wp_run 1 (pc' := 12) (ls' := [.ref 69]) (st' := [.int 0]) rfl ?_
        refine wp_retz rfl (Or.inl rfl) ?_
        show am_wp L xs _ _ _ _ 41 [.ref 0, .int 2, .int x2, .int 2, .int x4, .int x5, .ref 69, .ref 69] [.int 0] (am_S b) h _
        refine wp_if_f rfl (show ¬ (¬ (0 : Int32) = 0) from by decide) ?_
        refine wp_run 1 (pc' := 46) (ls' := [.ref 0, .int 2, .int x2, .int 2, .int x4, .int x5, .ref 69, .ref 69]) (st' := [.ref 69]) rfl ?_
        refine wp_callV (o := 69) (as := []) (rest := []) (els := [.ref 69]) rfl rfl rfl rfl rfl rfl rfl rfl (by omega) ?_
        refine wp_run 1 (pc' := 1) (ls' := [.ref 69]) (st' := [.ref 69]) rfl ?_
        refine wp_geti (a := 1) (h 69 1) rfl rfl rfl rfl ?_
        refine wp_if_t rfl (show ¬ (h 69 1) = 0 from cqz0) ?_
        refine wp_run 1 (pc' := 12) (ls' := [.ref 69]) (st' := [.int 0]) rfl ?_
        refine wp_retz rfl (Or.inl rfl) ?_
        show am_wp L xs _ _ _ _ 49 [.ref 0, .int 2, .int x2, .int 2, .int x4, .int x5, .ref 69, .ref 69] [.int 0] (am_S b) h _
        refine wp_if_t rfl (show (0 : Int32) = 0 from by decide) ?_
        refine wp_run 1 (pc' := 60) (ls' := [.ref 0, .int 2, .int x2, .int 2, .int x4, .int x5, .ref 69, .ref 69]) (st' := [.ref 69]) rfl ?_
        refine wp_geti (a := 1) (h 69 1) rfl rfl rfl rfl ?_
        refine wp_run 1 (pc' := 65) (ls' := [.ref 0, .int 2, .int x2, .int 2, .int x4, .int x5, .ref 69, .ref 69]) (st' := [.ref 69, .int (h 69 1)]) rfl ?_
        refine wp_geti (a := 1) (h 69 1) rfl rfl rfl rfl ?_
        refine wp_icmp_t rfl (show (h 69 1) = (h 69 1) from rfl) ?_
        refine wp_run 3 (pc' := 82) (ls' := [.ref 0, .int 2, .int x2, .int 2, .int x4, .int x5, .ref 69, .ref 69]) (st' := [.int x5, .int x2, .ref 69]) rfl ?_
        refine wp_callV (o := 69) (as := [.int x2, .int x5]) (rest := []) (els := [.ref 69, .int x2, .int x5]) rfl rfl rfl rfl rfl rfl rfl rfl (by omega) ?_
        refine sp_holds (h := h) (o := 69) (l := l) rfl ho2 hl24 (by omega) ?_ ?_
        · skip
          intro k2 k5 e5 e2 hle1
          subst e5
          subst e2
          show am_wp L xs _ _ _ _ 85 [.ref 0, .int 2, .int (nI k2), .int 2, .int x4, .int (nI k5), .ref 69, .ref 69] [.int 1] (am_S b) h _
          refine wp_if_f rfl (show ¬ ((1 : Int32) = 0) from by decide) ?_
          refine wp_run 3 (pc' := 94) (ls' := [.ref 0, .int 2, .int (nI k2), .int 2, .int x4, .int (nI k5), .ref 69, .ref 69]) (st' := [.int (nI k5), .int x4, .ref 69]) rfl ?_
          refine wp_callV (o := 69) (as := [.int x4, .int (nI k5)]) (rest := []) (els := [.ref 69, .int x4, .int (nI k5)]) rfl rfl rfl rfl rfl rfl rfl rfl (by omega) ?_
          refine sp_holds (h := h) (o := 69) (l := l) rfl ho2 hl24 (by omega) ?_ ?_
          · skip
            intro k4 n4 q1 e4 hle2
            have en := pu_inj (by omega) (by omega) q1
            subst en
            subst e4
            show am_wp L xs _ _ _ _ 97 [.ref 0, .int 2, .int (nI k2), .int 2, .int (nI k4), .int (nI k5), .ref 69, .ref 69] [.int 1] (am_S b) h _
            refine wp_if_t rfl (show ¬ (1 : Int32) = 0 from by decide) ?_
            refine wp_run 1 (pc' := 108) (ls' := [.ref 0, .int 2, .int (nI k2), .int 2, .int (nI k4), .int (nI k5), .ref 69, .ref 69]) (st' := [.ref 69]) rfl ?_
            refine wp_getr 70 rfl rfl rfl ?_
            refine wp_run 2 (pc' := 114) (ls' := [.ref 0, .int 2, .int (nI k2), .int 2, .int (nI k4), .int (nI k5), .ref 69, .ref 69]) (st' := [.ref 69, .int (nI k2), .ref 70]) rfl ?_
            refine wp_getr 70 rfl rfl rfl ?_
            refine wp_run 2 (pc' := 121) (ls' := [.ref 0, .int 2, .int (nI k2), .int 2, .int (nI k4), .int (nI k5), .ref 69, .ref 69]) (st' := [.int (nI k5), .int (nI k4), .ref 70, .int (nI k2), .ref 70]) rfl ?_
            refine wp_copy (q := 70) (o := 70) (sp := k2) (dp := k4) (n := k5) rfl rfl rfl rfl rfl rfl (by omega) (by omega) (by omega) (by omega) rfl (by omega) ?_
            refine wp_run 1 (pc' := 126) (ls' := [.ref 0, .int 2, .int (nI k2), .int 2, .int (nI k4), .int (nI k5), .ref 69, .ref 69]) (st' := [.int (nI k5)]) rfl ?_
            refine wp_ret rfl ?_
            refine kk _ _ _ (fun ms2 Q2 kk2 => ?_)
            refine wp_run 6 (pc' := 8) (ls' := [.ref 74, .int 2, .int (nI k2), .int 2, .int (nI k4), .int (nI k5), am_du, am_du, am_du]) (st' := [.int (nI k5), .int (nI k4), .int 2, .int (nI k2), .int 2, .ref 74]) rfl ?_
            refine wp_callV (o := 74) (as := [.int 2, .int (nI k2), .int 2, .int (nI k4), .int (nI k5)]) (rest := []) (els := [.ref 74, .int 2, .int (nI k2), .int 2, .int (nI k4), .int (nI k5), am_du]) rfl rfl rfl rfl rfl rfl rfl rfl (by omega) ?_
            refine wp_run 1 (pc' := 1) (ls' := [.ref 74, .int 2, .int (nI k2), .int 2, .int (nI k4), .int (nI k5), am_du]) (st' := [.int 2]) rfl ?_
            refine wp_callS (as := [.int 2]) (rest := []) (els := [.int 2]) rfl rfl rfl rfl rfl rfl rfl rfl (by omega) ?_
            refine sp_m_isSheet (by omega) (fun _ _ _ => ?_) (fun q => absurd rfl (q 2 (by omega)))
            show am_wp L xs _ _ _ _ 4 [.ref 74, .int 2, .int (nI k2), .int 2, .int (nI k4), .int (nI k5), am_du] [.int 1] (am_S b) (am_ur h 70 (va_cpy (h 70) (h 70) k2 k4 k5)) _
            refine wp_if_f rfl (show ¬ ((1 : Int32) = 0) from by decide) ?_
            refine wp_run 1 (pc' := 8) (ls' := [.ref 74, .int 2, .int (nI k2), .int 2, .int (nI k4), .int (nI k5), am_du]) (st' := [.int 2]) rfl ?_
            refine wp_callS (as := [.int 2]) (rest := []) (els := [.int 2]) rfl rfl rfl rfl rfl rfl rfl rfl (by omega) ?_
            refine sp_m_isSheet (by omega) (fun _ _ _ => ?_) (fun q => absurd rfl (q 2 (by omega)))
            show am_wp L xs _ _ _ _ 11 [.ref 74, .int 2, .int (nI k2), .int 2, .int (nI k4), .int (nI k5), am_du] [.int 1] (am_S b) (am_ur h 70 (va_cpy (h 70) (h 70) k2 k4 k5)) _
            refine wp_if_t rfl (show ¬ (1 : Int32) = 0 from by decide) ?_
            refine wp_run 1 (pc' := 18) (ls' := [.ref 74, .int 2, .int (nI k2), .int 2, .int (nI k4), .int (nI k5), am_du]) (st' := [.ref 74]) rfl ?_
            refine wp_getr 78 rfl rfl rfl ?_
            refine wp_run 1 (pc' := 22) (ls' := [.ref 74, .int 2, .int (nI k2), .int 2, .int (nI k4), .int (nI k5), am_du]) (st' := [.int 2, .ref 78]) rfl ?_
            refine wp_ald (i := 2) (h 78 2) rfl rfl rfl rfl (by decide) rfl ?_
            refine wp_if_f rfl (show ¬ ((h 78 2) = 0) from (fun q => cqz0 (hob.trans q))) ?_
            refine wp_run 1 (pc' := 27) (ls' := [.ref 74, .int 2, .int (nI k2), .int 2, .int (nI k4), .int (nI k5), am_du]) (st' := [.ref 74]) rfl ?_
            refine wp_getr 78 rfl rfl rfl ?_
            refine wp_run 1 (pc' := 31) (ls' := [.ref 74, .int 2, .int (nI k2), .int 2, .int (nI k4), .int (nI k5), am_du]) (st' := [.int 2, .ref 78]) rfl ?_
            refine wp_ald (i := 2) (h 78 2) rfl rfl rfl rfl (by decide) rfl ?_
            refine wp_if_t rfl (show ¬ (h 78 2) = 0 from (fun q => cqz0 (hob.trans q))) ?_
            refine wp_run 1 (pc' := 39) (ls' := [.ref 74, .int 2, .int (nI k2), .int 2, .int (nI k4), .int (nI k5), am_du]) (st' := [.ref 74]) rfl ?_
            refine wp_getr 78 rfl rfl rfl ?_
            refine wp_run 1 (pc' := 43) (ls' := [.ref 74, .int 2, .int (nI k2), .int 2, .int (nI k4), .int (nI k5), am_du]) (st' := [.int 2, .ref 78]) rfl ?_
            refine wp_ald (i := 2) (h 78 2) rfl rfl rfl rfl (by decide) rfl ?_
            refine wp_run 1 (pc' := 45) (ls' := [.ref 74, .int 2, .int (nI k2), .int 2, .int (nI k4), .int (nI k5), am_du]) (st' := [.ref 74, .int (h 78 2)]) rfl ?_
            refine wp_getr 78 rfl rfl rfl ?_
            refine wp_run 1 (pc' := 49) (ls' := [.ref 74, .int 2, .int (nI k2), .int 2, .int (nI k4), .int (nI k5), am_du]) (st' := [.int 2, .ref 78, .int (h 78 2)]) rfl ?_
            refine wp_ald (i := 2) (h 78 2) rfl rfl rfl rfl (by decide) rfl ?_
            refine wp_icmp_t rfl (show (h 78 2) = (h 78 2) from rfl) ?_
            refine wp_run 1 (pc' := 58) (ls' := [.ref 74, .int 2, .int (nI k2), .int 2, .int (nI k4), .int (nI k5), am_du]) (st' := [.int (nI k5)]) rfl ?_
            refine wp_if_f rfl (show ¬ ((nI k5) < 0) from mt (nI_ltI (a := k5) (b := 0) (by omega) (by omega)).mp (by omega)) ?_
            refine wp_run 1 (pc' := 62) (ls' := [.ref 74, .int 2, .int (nI k2), .int 2, .int (nI k4), .int (nI k5), am_du]) (st' := [.int (nI k2)]) rfl ?_
            refine wp_if_f rfl (show ¬ ((nI k2) < 0) from mt (nI_ltI (a := k2) (b := 0) (by omega) (by omega)).mp (by omega)) ?_
            refine wp_run 1 (pc' := 67) (ls' := [.ref 74, .int 2, .int (nI k2), .int 2, .int (nI k4), .int (nI k5), am_du]) (st' := [.int (nI k4)]) rfl ?_
            refine wp_if_f rfl (show ¬ ((nI k4) < 0) from mt (nI_ltI (a := k4) (b := 0) (by omega) (by omega)).mp (by omega)) ?_
            refine wp_run 2 (pc' := 73) (ls' := [.ref 74, .int 2, .int (nI k2), .int 2, .int (nI k4), .int (nI k5), am_du]) (st' := [.ref 74, .int (nI k5)]) rfl ?_
            refine wp_getr 79 rfl rfl rfl ?_
            refine wp_run 1 (pc' := 77) (ls' := [.ref 74, .int 2, .int (nI k2), .int 2, .int (nI k4), .int (nI k5), am_du]) (st' := [.int 2, .ref 79, .int (nI k5)]) rfl ?_
            refine wp_ald (i := 2) (nI l) hz2 rfl rfl rfl (by decide) rfl ?_
            refine wp_run 2 (pc' := 80) (ls' := [.ref 74, .int 2, .int (nI k2), .int 2, .int (nI k4), .int (nI k5), am_du]) (st' := [.int ((nI l) - (nI k2)), .int (nI k5)]) rfl ?_
            refine wp_icmp_f rfl (show ¬ (((nI l) - (nI k2)) < (nI k5)) from Int32.not_lt.mpr ((pu_suble (by omega) (by omega) hl24).mpr (by omega))) ?_
            refine wp_run 2 (pc' := 86) (ls' := [.ref 74, .int 2, .int (nI k2), .int 2, .int (nI k4), .int (nI k5), am_du]) (st' := [.ref 74, .int (nI k5)]) rfl ?_
            refine wp_getr 79 rfl rfl rfl ?_
            refine wp_run 1 (pc' := 90) (ls' := [.ref 74, .int 2, .int (nI k2), .int 2, .int (nI k4), .int (nI k5), am_du]) (st' := [.int 2, .ref 79, .int (nI k5)]) rfl ?_
            refine wp_ald (i := 2) (nI l) hz2 rfl rfl rfl (by decide) rfl ?_
            refine wp_run 2 (pc' := 94) (ls' := [.ref 74, .int 2, .int (nI k2), .int 2, .int (nI k4), .int (nI k5), am_du]) (st' := [.int ((nI l) - (nI k4)), .int (nI k5)]) rfl ?_
            refine wp_icmp_f rfl (show ¬ (((nI l) - (nI k4)) < (nI k5)) from Int32.not_lt.mpr ((pu_suble (by omega) (by omega) hl24).mpr (by omega))) ?_
            refine wp_run 4 (pc' := 106) (ls' := [.ref 74, .int 2, .int (nI k2), .int 2, .int (nI k4), .int (nI k5), .int 1]) (st' := [.int 1]) rfl ?_
            refine wp_if_f rfl (show ¬ ((1 : Int32) = 0) from by decide) ?_
            refine wp_run 2 (pc' := 115) (ls' := [.ref 74, .int 2, .int (nI k2), .int 2, .int (nI k4), .int (nI k5), .int 1]) (st' := [.int 0]) rfl ?_
            refine wp_ret rfl ?_
            show am_wp L xs _ _ _ _ 11 [.ref 74, .int 2, .int (nI k2), .int 2, .int (nI k4), .int (nI k5), am_du, am_du, am_du] [.int 0] (am_S b) (am_ur h 70 (va_cpy (h 70) (h 70) k2 k4 k5)) _
            refine wp_run 2 (pc' := 15) (ls' := [.ref 74, .int 2, .int (nI k2), .int 2, .int (nI k4), .int (nI k5), .int 0, am_du, am_du]) (st' := [.int 0]) rfl ?_
            refine wp_if_t rfl (show (0 : Int32) = 0 from by decide) ?_
            refine wp_run 2 (pc' := 28) (ls' := [.ref 74, .int 2, .int (nI k2), .int 2, .int (nI k4), .int (nI k5), .int 0, .int 0, am_du]) (st' := []) rfl ?_
            by_cases hij : k2 < k4
            · have hp := lp_mvd (L := L) (xs := xs) (d := d) (ms := ms2) (b := b) (h := (am_ur h 70 (va_cpy (h 70) (h 70) k2 k4 k5))) (Q := Q2) (s := 2) (o := 2) (i := k2) (j := k4) (n := k5) (by omega) (by omega) (by omega) (by omega) hij (by omega) ?_ k5 0 am_du (by omega)
              · rw [mv_d0] at hp; exact hp
              · exact kk2 _ _ ⟨⟨n, c, t, tp, wt, s0, s1, p0, p1, H⟩, re_im_s hI, hE, (re_sh_mo hS0 (by decide) (by omega)), (re_sh_mo hS1 (by decide) (by omega)), (re_sh_m hS2 hS2 (by omega) (by omega)), (re_sh_mo hS3 (by decide) (by omega)), hT⟩
            · have hp := lp_mva (L := L) (xs := xs) (d := d) (ms := ms2) (b := b) (h := (am_ur h 70 (va_cpy (h 70) (h 70) k2 k4 k5))) (Q := Q2) (s := 2) (o := 2) (i := k2) (j := k4) (n := k5) (by omega) (by omega) (by omega) (by omega) hij (by omega) ?_ k5 0 am_du (by omega)
              · rw [mv_a0] at hp; exact hp
              · exact kk2 _ _ ⟨⟨n, c, t, tp, wt, s0, s1, p0, p1, H⟩, re_im_s hI, hE, (re_sh_mo hS0 (by decide) (by omega)), (re_sh_mo hS1 (by decide) (by omega)), (re_sh_m hS2 hS2 (by omega) (by omega)), (re_sh_mo hS3 (by decide) (by omega)), hT⟩
          · skip
            intro hno2
            show am_wp L xs _ _ _ _ 97 [.ref 0, .int 2, .int (nI k2), .int 2, .int x4, .int (nI k5), .ref 69, .ref 69] [.int 0] (am_S b) h _
            refine wp_if_f rfl (show ¬ (¬ (0 : Int32) = 0) from by decide) ?_
            refine wp_run 2 (pc' := 102) (ls' := [.ref 0, .int 2, .int (nI k2), .int 2, .int x4, .int (nI k5), .ref 69, .ref 69]) (st' := [.int 1, .ref 0]) rfl ?_
            refine wp_callV (o := 0) (as := [.int 1]) (rest := []) (els := [.ref 0, .int 1]) rfl rfl rfl rfl rfl rfl rfl rfl (by omega) ?_
            refine sp_refuse1 (by omega) ?_
            show am_wp L xs _ _ _ _ 105 [.ref 0, .int 2, .int (nI k2), .int 2, .int x4, .int (nI k5), .ref 69, .ref 69] [.int (-1000000001)] (am_S b) (am_u h 73 1 (h 73 1 + 1)) _
            refine wp_ret rfl ?_
            refine kk _ _ _ (fun ms2 Q2 kk2 => ?_)
            refine wp_run 6 (pc' := 8) (ls' := [.ref 74, .int 2, .int (nI k2), .int 2, .int x4, .int (nI k5), am_du, am_du, am_du]) (st' := [.int (nI k5), .int x4, .int 2, .int (nI k2), .int 2, .ref 74]) rfl ?_
            refine wp_callV (o := 74) (as := [.int 2, .int (nI k2), .int 2, .int x4, .int (nI k5)]) (rest := []) (els := [.ref 74, .int 2, .int (nI k2), .int 2, .int x4, .int (nI k5), am_du]) rfl rfl rfl rfl rfl rfl rfl rfl (by omega) ?_
            refine wp_run 1 (pc' := 1) (ls' := [.ref 74, .int 2, .int (nI k2), .int 2, .int x4, .int (nI k5), am_du]) (st' := [.int 2]) rfl ?_
            refine wp_callS (as := [.int 2]) (rest := []) (els := [.int 2]) rfl rfl rfl rfl rfl rfl rfl rfl (by omega) ?_
            refine sp_m_isSheet (by omega) (fun _ _ _ => ?_) (fun q => absurd rfl (q 2 (by omega)))
            show am_wp L xs _ _ _ _ 4 [.ref 74, .int 2, .int (nI k2), .int 2, .int x4, .int (nI k5), am_du] [.int 1] (am_S b) (am_u h 73 1 (h 73 1 + 1)) _
            refine wp_if_f rfl (show ¬ ((1 : Int32) = 0) from by decide) ?_
            refine wp_run 1 (pc' := 8) (ls' := [.ref 74, .int 2, .int (nI k2), .int 2, .int x4, .int (nI k5), am_du]) (st' := [.int 2]) rfl ?_
            refine wp_callS (as := [.int 2]) (rest := []) (els := [.int 2]) rfl rfl rfl rfl rfl rfl rfl rfl (by omega) ?_
            refine sp_m_isSheet (by omega) (fun _ _ _ => ?_) (fun q => absurd rfl (q 2 (by omega)))
            show am_wp L xs _ _ _ _ 11 [.ref 74, .int 2, .int (nI k2), .int 2, .int x4, .int (nI k5), am_du] [.int 1] (am_S b) (am_u h 73 1 (h 73 1 + 1)) _
            refine wp_if_t rfl (show ¬ (1 : Int32) = 0 from by decide) ?_
            refine wp_run 1 (pc' := 18) (ls' := [.ref 74, .int 2, .int (nI k2), .int 2, .int x4, .int (nI k5), am_du]) (st' := [.ref 74]) rfl ?_
            refine wp_getr 78 rfl rfl rfl ?_
            refine wp_run 1 (pc' := 22) (ls' := [.ref 74, .int 2, .int (nI k2), .int 2, .int x4, .int (nI k5), am_du]) (st' := [.int 2, .ref 78]) rfl ?_
            refine wp_ald (i := 2) (h 78 2) rfl rfl rfl rfl (by decide) rfl ?_
            refine wp_if_f rfl (show ¬ ((h 78 2) = 0) from (fun q => cqz0 (hob.trans q))) ?_
            refine wp_run 1 (pc' := 27) (ls' := [.ref 74, .int 2, .int (nI k2), .int 2, .int x4, .int (nI k5), am_du]) (st' := [.ref 74]) rfl ?_
            refine wp_getr 78 rfl rfl rfl ?_
            refine wp_run 1 (pc' := 31) (ls' := [.ref 74, .int 2, .int (nI k2), .int 2, .int x4, .int (nI k5), am_du]) (st' := [.int 2, .ref 78]) rfl ?_
            refine wp_ald (i := 2) (h 78 2) rfl rfl rfl rfl (by decide) rfl ?_
            refine wp_if_t rfl (show ¬ (h 78 2) = 0 from (fun q => cqz0 (hob.trans q))) ?_
            refine wp_run 1 (pc' := 39) (ls' := [.ref 74, .int 2, .int (nI k2), .int 2, .int x4, .int (nI k5), am_du]) (st' := [.ref 74]) rfl ?_
            refine wp_getr 78 rfl rfl rfl ?_
            refine wp_run 1 (pc' := 43) (ls' := [.ref 74, .int 2, .int (nI k2), .int 2, .int x4, .int (nI k5), am_du]) (st' := [.int 2, .ref 78]) rfl ?_
            refine wp_ald (i := 2) (h 78 2) rfl rfl rfl rfl (by decide) rfl ?_
            refine wp_run 1 (pc' := 45) (ls' := [.ref 74, .int 2, .int (nI k2), .int 2, .int x4, .int (nI k5), am_du]) (st' := [.ref 74, .int (h 78 2)]) rfl ?_
            refine wp_getr 78 rfl rfl rfl ?_
            refine wp_run 1 (pc' := 49) (ls' := [.ref 74, .int 2, .int (nI k2), .int 2, .int x4, .int (nI k5), am_du]) (st' := [.int 2, .ref 78, .int (h 78 2)]) rfl ?_
            refine wp_ald (i := 2) (h 78 2) rfl rfl rfl rfl (by decide) rfl ?_
            refine wp_icmp_t rfl (show (h 78 2) = (h 78 2) from rfl) ?_
            refine wp_run 1 (pc' := 58) (ls' := [.ref 74, .int 2, .int (nI k2), .int 2, .int x4, .int (nI k5), am_du]) (st' := [.int (nI k5)]) rfl ?_
            refine wp_if_f rfl (show ¬ ((nI k5) < 0) from mt (nI_ltI (a := k5) (b := 0) (by omega) (by omega)).mp (by omega)) ?_
            refine wp_run 1 (pc' := 62) (ls' := [.ref 74, .int 2, .int (nI k2), .int 2, .int x4, .int (nI k5), am_du]) (st' := [.int (nI k2)]) rfl ?_
            refine wp_if_f rfl (show ¬ ((nI k2) < 0) from mt (nI_ltI (a := k2) (b := 0) (by omega) (by omega)).mp (by omega)) ?_
            refine wp_run 1 (pc' := 67) (ls' := [.ref 74, .int 2, .int (nI k2), .int 2, .int x4, .int (nI k5), am_du]) (st' := [.int x4]) rfl ?_
            refine wp_if rfl (fun (cq67 : x4 < 0) => ?_) (fun (cq67 : ¬ (x4 < 0)) => ?_)
            · skip
              refine wp_run 3 (pc' := 106) (ls' := [.ref 74, .int 2, .int (nI k2), .int 2, .int x4, .int (nI k5), .int 0]) (st' := [.int 0]) rfl ?_
              refine wp_if_t rfl (show (0 : Int32) = 0 from by decide) ?_
              refine wp_run 1 (pc' := 115) (ls' := [.ref 74, .int 2, .int (nI k2), .int 2, .int x4, .int (nI k5), .int 0]) (st' := [.int (-1000000001)]) rfl ?_
              refine wp_ret rfl ?_
              show am_wp L xs _ _ _ _ 11 [.ref 74, .int 2, .int (nI k2), .int 2, .int x4, .int (nI k5), am_du, am_du, am_du] [.int (-1000000001)] (am_S b) (am_u h 73 1 (h 73 1 + 1)) _
              refine wp_run 2 (pc' := 15) (ls' := [.ref 74, .int 2, .int (nI k2), .int 2, .int x4, .int (nI k5), .int (-1000000001), am_du, am_du]) (st' := [.int (-1000000001)]) rfl ?_
              refine wp_if_f rfl (show ¬ (((-1000000001) : Int32) = 0) from by decide) ?_
              refine wp_run 2 (pc' := 21) (ls' := [.ref 74, .int 2, .int (nI k2), .int 2, .int x4, .int (nI k5), .int (-1000000001), am_du, am_du]) (st' := [.int (-1000000001), .ref 74]) rfl ?_
              refine wp_callV (o := 74) (as := [.int (-1000000001)]) (rest := []) (els := [.ref 74, .int (-1000000001)]) rfl rfl rfl rfl rfl rfl rfl rfl (by omega) ?_
              refine sp_error1 ?_
              show am_wp L xs _ _ _ _ 24 [.ref 74, .int 2, .int (nI k2), .int 2, .int x4, .int (nI k5), .int (-1000000001), am_du, am_du] [.int (-1000000001)] (am_S b) (am_u (am_u h 73 1 (h 73 1 + 1)) 77 1 ((am_u h 73 1 (h 73 1 + 1)) 77 1 + 1)) _
              refine wp_ret rfl ?_
              exact kk2 _ _ (re_err1 hR)
            · skip
              obtain ⟨k4, hk4, ek4⟩ := pu_nonneg (Int32.not_lt.mp cq67)
              subst ek4
              refine wp_run 2 (pc' := 73) (ls' := [.ref 74, .int 2, .int (nI k2), .int 2, .int (nI k4), .int (nI k5), am_du]) (st' := [.ref 74, .int (nI k5)]) rfl ?_
              refine wp_getr 79 rfl rfl rfl ?_
              refine wp_run 1 (pc' := 77) (ls' := [.ref 74, .int 2, .int (nI k2), .int 2, .int (nI k4), .int (nI k5), am_du]) (st' := [.int 2, .ref 79, .int (nI k5)]) rfl ?_
              refine wp_ald (i := 2) (nI l) hz2 rfl rfl rfl (by decide) rfl ?_
              refine wp_run 2 (pc' := 80) (ls' := [.ref 74, .int 2, .int (nI k2), .int 2, .int (nI k4), .int (nI k5), am_du]) (st' := [.int ((nI l) - (nI k2)), .int (nI k5)]) rfl ?_
              refine wp_icmp_f rfl (show ¬ (((nI l) - (nI k2)) < (nI k5)) from Int32.not_lt.mpr ((pu_suble (by omega) (by omega) hl24).mpr (by omega))) ?_
              refine wp_run 2 (pc' := 86) (ls' := [.ref 74, .int 2, .int (nI k2), .int 2, .int (nI k4), .int (nI k5), am_du]) (st' := [.ref 74, .int (nI k5)]) rfl ?_
              refine wp_getr 79 rfl rfl rfl ?_
              refine wp_run 1 (pc' := 90) (ls' := [.ref 74, .int 2, .int (nI k2), .int 2, .int (nI k4), .int (nI k5), am_du]) (st' := [.int 2, .ref 79, .int (nI k5)]) rfl ?_
              refine wp_ald (i := 2) (nI l) hz2 rfl rfl rfl (by decide) rfl ?_
              refine wp_run 2 (pc' := 94) (ls' := [.ref 74, .int 2, .int (nI k2), .int 2, .int (nI k4), .int (nI k5), am_du]) (st' := [.int ((nI l) - (nI k4)), .int (nI k5)]) rfl ?_
              refine wp_icmp_t rfl (show ((nI l) - (nI k4)) < (nI k5) from Int32.not_le.mp (fun q => hno2 k4 k5 rfl rfl (by have := (pu_suble (by omega) (by omega) hl24).mp q; omega))) ?_
              refine wp_run 3 (pc' := 106) (ls' := [.ref 74, .int 2, .int (nI k2), .int 2, .int (nI k4), .int (nI k5), .int 0]) (st' := [.int 0]) rfl ?_
              refine wp_if_t rfl (show (0 : Int32) = 0 from by decide) ?_
              refine wp_run 1 (pc' := 115) (ls' := [.ref 74, .int 2, .int (nI k2), .int 2, .int (nI k4), .int (nI k5), .int 0]) (st' := [.int (-1000000001)]) rfl ?_
              refine wp_ret rfl ?_
              show am_wp L xs _ _ _ _ 11 [.ref 74, .int 2, .int (nI k2), .int 2, .int (nI k4), .int (nI k5), am_du, am_du, am_du] [.int (-1000000001)] (am_S b) (am_u h 73 1 (h 73 1 + 1)) _
              refine wp_run 2 (pc' := 15) (ls' := [.ref 74, .int 2, .int (nI k2), .int 2, .int (nI k4), .int (nI k5), .int (-1000000001), am_du, am_du]) (st' := [.int (-1000000001)]) rfl ?_
              refine wp_if_f rfl (show ¬ (((-1000000001) : Int32) = 0) from by decide) ?_
              refine wp_run 2 (pc' := 21) (ls' := [.ref 74, .int 2, .int (nI k2), .int 2, .int (nI k4), .int (nI k5), .int (-1000000001), am_du, am_du]) (st' := [.int (-1000000001), .ref 74]) rfl ?_
              refine wp_callV (o := 74) (as := [.int (-1000000001)]) (rest := []) (els := [.ref 74, .int (-1000000001)]) rfl rfl rfl rfl rfl rfl rfl rfl (by omega) ?_
              refine sp_error1 ?_
              show am_wp L xs _ _ _ _ 24 [.ref 74, .int 2, .int (nI k2), .int 2, .int (nI k4), .int (nI k5), .int (-1000000001), am_du, am_du] [.int (-1000000001)] (am_S b) (am_u (am_u h 73 1 (h 73 1 + 1)) 77 1 ((am_u h 73 1 (h 73 1 + 1)) 77 1 + 1)) _
              refine wp_ret rfl ?_
              exact kk2 _ _ (re_err1 hR)
        · skip
          intro hno1
          show am_wp L xs _ _ _ _ 85 [.ref 0, .int 2, .int x2, .int 2, .int x4, .int x5, .ref 69, .ref 69] [.int 0] (am_S b) h _
          refine wp_if_t rfl (show (0 : Int32) = 0 from by decide) ?_
          refine wp_run 2 (pc' := 102) (ls' := [.ref 0, .int 2, .int x2, .int 2, .int x4, .int x5, .ref 69, .ref 69]) (st' := [.int 1, .ref 0]) rfl ?_
          refine wp_callV (o := 0) (as := [.int 1]) (rest := []) (els := [.ref 0, .int 1]) rfl rfl rfl rfl rfl rfl rfl rfl (by omega) ?_
          refine sp_refuse1 (by omega) ?_
          show am_wp L xs _ _ _ _ 105 [.ref 0, .int 2, .int x2, .int 2, .int x4, .int x5, .ref 69, .ref 69] [.int (-1000000001)] (am_S b) (am_u h 73 1 (h 73 1 + 1)) _
          refine wp_ret rfl ?_
          refine kk _ _ _ (fun ms2 Q2 kk2 => ?_)
          refine wp_run 6 (pc' := 8) (ls' := [.ref 74, .int 2, .int x2, .int 2, .int x4, .int x5, am_du, am_du, am_du]) (st' := [.int x5, .int x4, .int 2, .int x2, .int 2, .ref 74]) rfl ?_
          refine wp_callV (o := 74) (as := [.int 2, .int x2, .int 2, .int x4, .int x5]) (rest := []) (els := [.ref 74, .int 2, .int x2, .int 2, .int x4, .int x5, am_du]) rfl rfl rfl rfl rfl rfl rfl rfl (by omega) ?_
          refine wp_run 1 (pc' := 1) (ls' := [.ref 74, .int 2, .int x2, .int 2, .int x4, .int x5, am_du]) (st' := [.int 2]) rfl ?_
          refine wp_callS (as := [.int 2]) (rest := []) (els := [.int 2]) rfl rfl rfl rfl rfl rfl rfl rfl (by omega) ?_
          refine sp_m_isSheet (by omega) (fun _ _ _ => ?_) (fun q => absurd rfl (q 2 (by omega)))
          show am_wp L xs _ _ _ _ 4 [.ref 74, .int 2, .int x2, .int 2, .int x4, .int x5, am_du] [.int 1] (am_S b) (am_u h 73 1 (h 73 1 + 1)) _
          refine wp_if_f rfl (show ¬ ((1 : Int32) = 0) from by decide) ?_
          refine wp_run 1 (pc' := 8) (ls' := [.ref 74, .int 2, .int x2, .int 2, .int x4, .int x5, am_du]) (st' := [.int 2]) rfl ?_
          refine wp_callS (as := [.int 2]) (rest := []) (els := [.int 2]) rfl rfl rfl rfl rfl rfl rfl rfl (by omega) ?_
          refine sp_m_isSheet (by omega) (fun _ _ _ => ?_) (fun q => absurd rfl (q 2 (by omega)))
          show am_wp L xs _ _ _ _ 11 [.ref 74, .int 2, .int x2, .int 2, .int x4, .int x5, am_du] [.int 1] (am_S b) (am_u h 73 1 (h 73 1 + 1)) _
          refine wp_if_t rfl (show ¬ (1 : Int32) = 0 from by decide) ?_
          refine wp_run 1 (pc' := 18) (ls' := [.ref 74, .int 2, .int x2, .int 2, .int x4, .int x5, am_du]) (st' := [.ref 74]) rfl ?_
          refine wp_getr 78 rfl rfl rfl ?_
          refine wp_run 1 (pc' := 22) (ls' := [.ref 74, .int 2, .int x2, .int 2, .int x4, .int x5, am_du]) (st' := [.int 2, .ref 78]) rfl ?_
          refine wp_ald (i := 2) (h 78 2) rfl rfl rfl rfl (by decide) rfl ?_
          refine wp_if_f rfl (show ¬ ((h 78 2) = 0) from (fun q => cqz0 (hob.trans q))) ?_
          refine wp_run 1 (pc' := 27) (ls' := [.ref 74, .int 2, .int x2, .int 2, .int x4, .int x5, am_du]) (st' := [.ref 74]) rfl ?_
          refine wp_getr 78 rfl rfl rfl ?_
          refine wp_run 1 (pc' := 31) (ls' := [.ref 74, .int 2, .int x2, .int 2, .int x4, .int x5, am_du]) (st' := [.int 2, .ref 78]) rfl ?_
          refine wp_ald (i := 2) (h 78 2) rfl rfl rfl rfl (by decide) rfl ?_
          refine wp_if_t rfl (show ¬ (h 78 2) = 0 from (fun q => cqz0 (hob.trans q))) ?_
          refine wp_run 1 (pc' := 39) (ls' := [.ref 74, .int 2, .int x2, .int 2, .int x4, .int x5, am_du]) (st' := [.ref 74]) rfl ?_
          refine wp_getr 78 rfl rfl rfl ?_
          refine wp_run 1 (pc' := 43) (ls' := [.ref 74, .int 2, .int x2, .int 2, .int x4, .int x5, am_du]) (st' := [.int 2, .ref 78]) rfl ?_
          refine wp_ald (i := 2) (h 78 2) rfl rfl rfl rfl (by decide) rfl ?_
          refine wp_run 1 (pc' := 45) (ls' := [.ref 74, .int 2, .int x2, .int 2, .int x4, .int x5, am_du]) (st' := [.ref 74, .int (h 78 2)]) rfl ?_
          refine wp_getr 78 rfl rfl rfl ?_
          refine wp_run 1 (pc' := 49) (ls' := [.ref 74, .int 2, .int x2, .int 2, .int x4, .int x5, am_du]) (st' := [.int 2, .ref 78, .int (h 78 2)]) rfl ?_
          refine wp_ald (i := 2) (h 78 2) rfl rfl rfl rfl (by decide) rfl ?_
          refine wp_icmp_t rfl (show (h 78 2) = (h 78 2) from rfl) ?_
          refine wp_run 1 (pc' := 58) (ls' := [.ref 74, .int 2, .int x2, .int 2, .int x4, .int x5, am_du]) (st' := [.int x5]) rfl ?_
          refine wp_if rfl (fun (cq58 : x5 < 0) => ?_) (fun (cq58 : ¬ (x5 < 0)) => ?_)
          · skip
            refine wp_run 3 (pc' := 106) (ls' := [.ref 74, .int 2, .int x2, .int 2, .int x4, .int x5, .int 0]) (st' := [.int 0]) rfl ?_
            refine wp_if_t rfl (show (0 : Int32) = 0 from by decide) ?_
            refine wp_run 1 (pc' := 115) (ls' := [.ref 74, .int 2, .int x2, .int 2, .int x4, .int x5, .int 0]) (st' := [.int (-1000000001)]) rfl ?_
            refine wp_ret rfl ?_
            show am_wp L xs _ _ _ _ 11 [.ref 74, .int 2, .int x2, .int 2, .int x4, .int x5, am_du, am_du, am_du] [.int (-1000000001)] (am_S b) (am_u h 73 1 (h 73 1 + 1)) _
            refine wp_run 2 (pc' := 15) (ls' := [.ref 74, .int 2, .int x2, .int 2, .int x4, .int x5, .int (-1000000001), am_du, am_du]) (st' := [.int (-1000000001)]) rfl ?_
            refine wp_if_f rfl (show ¬ (((-1000000001) : Int32) = 0) from by decide) ?_
            refine wp_run 2 (pc' := 21) (ls' := [.ref 74, .int 2, .int x2, .int 2, .int x4, .int x5, .int (-1000000001), am_du, am_du]) (st' := [.int (-1000000001), .ref 74]) rfl ?_
            refine wp_callV (o := 74) (as := [.int (-1000000001)]) (rest := []) (els := [.ref 74, .int (-1000000001)]) rfl rfl rfl rfl rfl rfl rfl rfl (by omega) ?_
            refine sp_error1 ?_
            show am_wp L xs _ _ _ _ 24 [.ref 74, .int 2, .int x2, .int 2, .int x4, .int x5, .int (-1000000001), am_du, am_du] [.int (-1000000001)] (am_S b) (am_u (am_u h 73 1 (h 73 1 + 1)) 77 1 ((am_u h 73 1 (h 73 1 + 1)) 77 1 + 1)) _
            refine wp_ret rfl ?_
            exact kk2 _ _ (re_err1 hR)
          · skip
            obtain ⟨k5, hk5, ek5⟩ := pu_nonneg (Int32.not_lt.mp cq58)
            subst ek5
            refine wp_run 1 (pc' := 62) (ls' := [.ref 74, .int 2, .int x2, .int 2, .int x4, .int (nI k5), am_du]) (st' := [.int x2]) rfl ?_
            refine wp_if rfl (fun (cq62 : x2 < 0) => ?_) (fun (cq62 : ¬ (x2 < 0)) => ?_)
            · skip
              refine wp_run 3 (pc' := 106) (ls' := [.ref 74, .int 2, .int x2, .int 2, .int x4, .int (nI k5), .int 0]) (st' := [.int 0]) rfl ?_
              refine wp_if_t rfl (show (0 : Int32) = 0 from by decide) ?_
              refine wp_run 1 (pc' := 115) (ls' := [.ref 74, .int 2, .int x2, .int 2, .int x4, .int (nI k5), .int 0]) (st' := [.int (-1000000001)]) rfl ?_
              refine wp_ret rfl ?_
              show am_wp L xs _ _ _ _ 11 [.ref 74, .int 2, .int x2, .int 2, .int x4, .int (nI k5), am_du, am_du, am_du] [.int (-1000000001)] (am_S b) (am_u h 73 1 (h 73 1 + 1)) _
              refine wp_run 2 (pc' := 15) (ls' := [.ref 74, .int 2, .int x2, .int 2, .int x4, .int (nI k5), .int (-1000000001), am_du, am_du]) (st' := [.int (-1000000001)]) rfl ?_
              refine wp_if_f rfl (show ¬ (((-1000000001) : Int32) = 0) from by decide) ?_
              refine wp_run 2 (pc' := 21) (ls' := [.ref 74, .int 2, .int x2, .int 2, .int x4, .int (nI k5), .int (-1000000001), am_du, am_du]) (st' := [.int (-1000000001), .ref 74]) rfl ?_
              refine wp_callV (o := 74) (as := [.int (-1000000001)]) (rest := []) (els := [.ref 74, .int (-1000000001)]) rfl rfl rfl rfl rfl rfl rfl rfl (by omega) ?_
              refine sp_error1 ?_
              show am_wp L xs _ _ _ _ 24 [.ref 74, .int 2, .int x2, .int 2, .int x4, .int (nI k5), .int (-1000000001), am_du, am_du] [.int (-1000000001)] (am_S b) (am_u (am_u h 73 1 (h 73 1 + 1)) 77 1 ((am_u h 73 1 (h 73 1 + 1)) 77 1 + 1)) _
              refine wp_ret rfl ?_
              exact kk2 _ _ (re_err1 hR)
            · skip
              obtain ⟨k2, hk2, ek2⟩ := pu_nonneg (Int32.not_lt.mp cq62)
              subst ek2
              refine wp_run 1 (pc' := 67) (ls' := [.ref 74, .int 2, .int (nI k2), .int 2, .int x4, .int (nI k5), am_du]) (st' := [.int x4]) rfl ?_
              refine wp_if rfl (fun (cq67 : x4 < 0) => ?_) (fun (cq67 : ¬ (x4 < 0)) => ?_)
              · skip
                refine wp_run 3 (pc' := 106) (ls' := [.ref 74, .int 2, .int (nI k2), .int 2, .int x4, .int (nI k5), .int 0]) (st' := [.int 0]) rfl ?_
                refine wp_if_t rfl (show (0 : Int32) = 0 from by decide) ?_
                refine wp_run 1 (pc' := 115) (ls' := [.ref 74, .int 2, .int (nI k2), .int 2, .int x4, .int (nI k5), .int 0]) (st' := [.int (-1000000001)]) rfl ?_
                refine wp_ret rfl ?_
                show am_wp L xs _ _ _ _ 11 [.ref 74, .int 2, .int (nI k2), .int 2, .int x4, .int (nI k5), am_du, am_du, am_du] [.int (-1000000001)] (am_S b) (am_u h 73 1 (h 73 1 + 1)) _
                refine wp_run 2 (pc' := 15) (ls' := [.ref 74, .int 2, .int (nI k2), .int 2, .int x4, .int (nI k5), .int (-1000000001), am_du, am_du]) (st' := [.int (-1000000001)]) rfl ?_
                refine wp_if_f rfl (show ¬ (((-1000000001) : Int32) = 0) from by decide) ?_
                refine wp_run 2 (pc' := 21) (ls' := [.ref 74, .int 2, .int (nI k2), .int 2, .int x4, .int (nI k5), .int (-1000000001), am_du, am_du]) (st' := [.int (-1000000001), .ref 74]) rfl ?_
                refine wp_callV (o := 74) (as := [.int (-1000000001)]) (rest := []) (els := [.ref 74, .int (-1000000001)]) rfl rfl rfl rfl rfl rfl rfl rfl (by omega) ?_
                refine sp_error1 ?_
                show am_wp L xs _ _ _ _ 24 [.ref 74, .int 2, .int (nI k2), .int 2, .int x4, .int (nI k5), .int (-1000000001), am_du, am_du] [.int (-1000000001)] (am_S b) (am_u (am_u h 73 1 (h 73 1 + 1)) 77 1 ((am_u h 73 1 (h 73 1 + 1)) 77 1 + 1)) _
                refine wp_ret rfl ?_
                exact kk2 _ _ (re_err1 hR)
              · skip
                obtain ⟨k4, hk4, ek4⟩ := pu_nonneg (Int32.not_lt.mp cq67)
                subst ek4
                refine wp_run 2 (pc' := 73) (ls' := [.ref 74, .int 2, .int (nI k2), .int 2, .int (nI k4), .int (nI k5), am_du]) (st' := [.ref 74, .int (nI k5)]) rfl ?_
                refine wp_getr 79 rfl rfl rfl ?_
                refine wp_run 1 (pc' := 77) (ls' := [.ref 74, .int 2, .int (nI k2), .int 2, .int (nI k4), .int (nI k5), am_du]) (st' := [.int 2, .ref 79, .int (nI k5)]) rfl ?_
                refine wp_ald (i := 2) (nI l) hz2 rfl rfl rfl (by decide) rfl ?_
                refine wp_run 2 (pc' := 80) (ls' := [.ref 74, .int 2, .int (nI k2), .int 2, .int (nI k4), .int (nI k5), am_du]) (st' := [.int ((nI l) - (nI k2)), .int (nI k5)]) rfl ?_
                refine wp_icmp_t rfl (show ((nI l) - (nI k2)) < (nI k5) from Int32.not_le.mp (fun q => hno1 k2 k5 rfl rfl (by have := (pu_suble (by omega) (by omega) hl24).mp q; omega))) ?_
                refine wp_run 3 (pc' := 106) (ls' := [.ref 74, .int 2, .int (nI k2), .int 2, .int (nI k4), .int (nI k5), .int 0]) (st' := [.int 0]) rfl ?_
                refine wp_if_t rfl (show (0 : Int32) = 0 from by decide) ?_
                refine wp_run 1 (pc' := 115) (ls' := [.ref 74, .int 2, .int (nI k2), .int 2, .int (nI k4), .int (nI k5), .int 0]) (st' := [.int (-1000000001)]) rfl ?_
                refine wp_ret rfl ?_
                show am_wp L xs _ _ _ _ 11 [.ref 74, .int 2, .int (nI k2), .int 2, .int (nI k4), .int (nI k5), am_du, am_du, am_du] [.int (-1000000001)] (am_S b) (am_u h 73 1 (h 73 1 + 1)) _
                refine wp_run 2 (pc' := 15) (ls' := [.ref 74, .int 2, .int (nI k2), .int 2, .int (nI k4), .int (nI k5), .int (-1000000001), am_du, am_du]) (st' := [.int (-1000000001)]) rfl ?_
                refine wp_if_f rfl (show ¬ (((-1000000001) : Int32) = 0) from by decide) ?_
                refine wp_run 2 (pc' := 21) (ls' := [.ref 74, .int 2, .int (nI k2), .int 2, .int (nI k4), .int (nI k5), .int (-1000000001), am_du, am_du]) (st' := [.int (-1000000001), .ref 74]) rfl ?_
                refine wp_callV (o := 74) (as := [.int (-1000000001)]) (rest := []) (els := [.ref 74, .int (-1000000001)]) rfl rfl rfl rfl rfl rfl rfl rfl (by omega) ?_
                refine sp_error1 ?_
                show am_wp L xs _ _ _ _ 24 [.ref 74, .int 2, .int (nI k2), .int 2, .int (nI k4), .int (nI k5), .int (-1000000001), am_du, am_du] [.int (-1000000001)] (am_S b) (am_u (am_u h 73 1 (h 73 1 + 1)) 77 1 ((am_u h 73 1 (h 73 1 + 1)) 77 1 + 1)) _
                refine wp_ret rfl ?_
                exact kk2 _ _ (re_err1 hR)
      · skip
        replace cqz0 := Decidable.not_not.mp cqz0
        refine wp_run 2 (pc' := 12) (ls' := [.ref 69]) (st' := [.int 1]) rfl ?_
        refine wp_retz rfl (Or.inr rfl) ?_
        show am_wp L xs _ _ _ _ 41 [.ref 0, .int 2, .int x2, .int 2, .int x4, .int x5, .ref 69, .ref 69] [.int 1] (am_S b) h _
        refine wp_if_t rfl (show ¬ (1 : Int32) = 0 from by decide) ?_
        refine wp_run 2 (pc' := 54) (ls' := [.ref 0, .int 2, .int x2, .int 2, .int x4, .int x5, .ref 69, .ref 69]) (st' := [.int 2, .ref 0]) rfl ?_
        refine wp_callV (o := 0) (as := [.int 2]) (rest := []) (els := [.ref 0, .int 2]) rfl rfl rfl rfl rfl rfl rfl rfl (by omega) ?_
        refine sp_refuse2 (by omega) ?_
        show am_wp L xs _ _ _ _ 57 [.ref 0, .int 2, .int x2, .int 2, .int x4, .int x5, .ref 69, .ref 69] [.int (-1000000002)] (am_S b) (am_u h 73 2 (h 73 2 + 1)) _
        refine wp_ret rfl ?_
        refine kk _ _ _ (fun ms2 Q2 kk2 => ?_)
        refine wp_run 6 (pc' := 8) (ls' := [.ref 74, .int 2, .int x2, .int 2, .int x4, .int x5, am_du, am_du, am_du]) (st' := [.int x5, .int x4, .int 2, .int x2, .int 2, .ref 74]) rfl ?_
        refine wp_callV (o := 74) (as := [.int 2, .int x2, .int 2, .int x4, .int x5]) (rest := []) (els := [.ref 74, .int 2, .int x2, .int 2, .int x4, .int x5, am_du]) rfl rfl rfl rfl rfl rfl rfl rfl (by omega) ?_
        refine wp_run 1 (pc' := 1) (ls' := [.ref 74, .int 2, .int x2, .int 2, .int x4, .int x5, am_du]) (st' := [.int 2]) rfl ?_
        refine wp_callS (as := [.int 2]) (rest := []) (els := [.int 2]) rfl rfl rfl rfl rfl rfl rfl rfl (by omega) ?_
        refine sp_m_isSheet (by omega) (fun _ _ _ => ?_) (fun q => absurd rfl (q 2 (by omega)))
        show am_wp L xs _ _ _ _ 4 [.ref 74, .int 2, .int x2, .int 2, .int x4, .int x5, am_du] [.int 1] (am_S b) (am_u h 73 2 (h 73 2 + 1)) _
        refine wp_if_f rfl (show ¬ ((1 : Int32) = 0) from by decide) ?_
        refine wp_run 1 (pc' := 8) (ls' := [.ref 74, .int 2, .int x2, .int 2, .int x4, .int x5, am_du]) (st' := [.int 2]) rfl ?_
        refine wp_callS (as := [.int 2]) (rest := []) (els := [.int 2]) rfl rfl rfl rfl rfl rfl rfl rfl (by omega) ?_
        refine sp_m_isSheet (by omega) (fun _ _ _ => ?_) (fun q => absurd rfl (q 2 (by omega)))
        show am_wp L xs _ _ _ _ 11 [.ref 74, .int 2, .int x2, .int 2, .int x4, .int x5, am_du] [.int 1] (am_S b) (am_u h 73 2 (h 73 2 + 1)) _
        refine wp_if_t rfl (show ¬ (1 : Int32) = 0 from by decide) ?_
        refine wp_run 1 (pc' := 18) (ls' := [.ref 74, .int 2, .int x2, .int 2, .int x4, .int x5, am_du]) (st' := [.ref 74]) rfl ?_
        refine wp_getr 78 rfl rfl rfl ?_
        refine wp_run 1 (pc' := 22) (ls' := [.ref 74, .int 2, .int x2, .int 2, .int x4, .int x5, am_du]) (st' := [.int 2, .ref 78]) rfl ?_
        refine wp_ald (i := 2) (h 78 2) rfl rfl rfl rfl (by decide) rfl ?_
        refine wp_if_t rfl (show (h 78 2) = 0 from (hob.symm.trans cqz0)) ?_
        refine wp_run 1 (pc' := 37) (ls' := [.ref 74, .int 2, .int x2, .int 2, .int x4, .int x5, am_du]) (st' := [.int (-1000000002)]) rfl ?_
        refine wp_ret rfl ?_
        show am_wp L xs _ _ _ _ 11 [.ref 74, .int 2, .int x2, .int 2, .int x4, .int x5, am_du, am_du, am_du] [.int (-1000000002)] (am_S b) (am_u h 73 2 (h 73 2 + 1)) _
        refine wp_run 2 (pc' := 15) (ls' := [.ref 74, .int 2, .int x2, .int 2, .int x4, .int x5, .int (-1000000002), am_du, am_du]) (st' := [.int (-1000000002)]) rfl ?_
        refine wp_if_f rfl (show ¬ (((-1000000002) : Int32) = 0) from by decide) ?_
        refine wp_run 2 (pc' := 21) (ls' := [.ref 74, .int 2, .int x2, .int 2, .int x4, .int x5, .int (-1000000002), am_du, am_du]) (st' := [.int (-1000000002), .ref 74]) rfl ?_
        refine wp_callV (o := 74) (as := [.int (-1000000002)]) (rest := []) (els := [.ref 74, .int (-1000000002)]) rfl rfl rfl rfl rfl rfl rfl rfl (by omega) ?_
        refine sp_error2 ?_
        show am_wp L xs _ _ _ _ 24 [.ref 74, .int 2, .int x2, .int 2, .int x4, .int x5, .int (-1000000002), am_du, am_du] [.int (-1000000002)] (am_S b) (am_u (am_u h 73 2 (h 73 2 + 1)) 77 2 ((am_u h 73 2 (h 73 2 + 1)) 77 2 + 1)) _
        refine wp_ret rfl ?_
        exact kk2 _ _ (re_err2 hR)
    · skip
      intro ex3
      subst ex3
      show am_wp L xs _ _ _ _ 11 [.ref 0, .int 2, .int x2, .int 3, .int x4, .int x5, am_du, am_du] [.int 1] (am_S b) h _
      refine wp_if_t rfl (show ¬ (1 : Int32) = 0 from by decide) ?_
      obtain ⟨l, hl24, ho2, hz2, hob, hbb, hri⟩ := id hS2
      obtain ⟨lB, hl24B, ho2B, hz2B, hobB, hbbB, hriB⟩ := id hS3
      refine wp_run 1 (pc' := 21) (ls' := [.ref 0, .int 2, .int x2, .int 3, .int x4, .int x5, am_du, am_du]) (st' := [.ref 0]) rfl ?_
      refine wp_getr 64 rfl rfl rfl ?_
      refine wp_run 1 (pc' := 25) (ls' := [.ref 0, .int 2, .int x2, .int 3, .int x4, .int x5, am_du, am_du]) (st' := [.int 2, .ref 64]) rfl ?_
      refine wp_aald (r := 69) rfl rfl (Or.inr rfl) rfl (by decide) rfl rfl ?_
      refine wp_run 2 (pc' := 29) (ls' := [.ref 0, .int 2, .int x2, .int 3, .int x4, .int x5, .ref 69, am_du]) (st' := [.ref 0]) rfl ?_
      refine wp_getr 64 rfl rfl rfl ?_
      refine wp_run 1 (pc' := 33) (ls' := [.ref 0, .int 2, .int x2, .int 3, .int x4, .int x5, .ref 69, am_du]) (st' := [.int 3, .ref 64]) rfl ?_
      refine wp_aald (r := 71) rfl rfl (Or.inr rfl) rfl (by decide) rfl rfl ?_
      refine wp_run 2 (pc' := 38) (ls' := [.ref 0, .int 2, .int x2, .int 3, .int x4, .int x5, .ref 69, .ref 71]) (st' := [.ref 69]) rfl ?_
      refine wp_callV (o := 69) (as := []) (rest := []) (els := [.ref 69]) rfl rfl rfl rfl rfl rfl rfl rfl (by omega) ?_
      refine wp_run 1 (pc' := 1) (ls' := [.ref 69]) (st' := [.ref 69]) rfl ?_
      refine wp_geti (a := 1) (h 69 1) rfl rfl rfl rfl ?_
      refine wp_if rfl (fun (cqz0 : ¬ (h 69 1) = 0) => ?_) (fun (cqz0 : ¬ (¬ (h 69 1) = 0)) => ?_)
      · skip
        refine wp_run 1 (pc' := 12) (ls' := [.ref 69]) (st' := [.int 0]) rfl ?_
        refine wp_retz rfl (Or.inl rfl) ?_
        show am_wp L xs _ _ _ _ 41 [.ref 0, .int 2, .int x2, .int 3, .int x4, .int x5, .ref 69, .ref 71] [.int 0] (am_S b) h _
        refine wp_if_f rfl (show ¬ (¬ (0 : Int32) = 0) from by decide) ?_
        refine wp_run 1 (pc' := 46) (ls' := [.ref 0, .int 2, .int x2, .int 3, .int x4, .int x5, .ref 69, .ref 71]) (st' := [.ref 71]) rfl ?_
        refine wp_callV (o := 71) (as := []) (rest := []) (els := [.ref 71]) rfl rfl rfl rfl rfl rfl rfl rfl (by omega) ?_
        refine wp_run 1 (pc' := 1) (ls' := [.ref 71]) (st' := [.ref 71]) rfl ?_
        refine wp_geti (a := 1) (h 71 1) rfl rfl rfl rfl ?_
        refine wp_if rfl (fun (cqz1 : ¬ (h 71 1) = 0) => ?_) (fun (cqz1 : ¬ (¬ (h 71 1) = 0)) => ?_)
        · skip
          refine wp_run 1 (pc' := 12) (ls' := [.ref 71]) (st' := [.int 0]) rfl ?_
          refine wp_retz rfl (Or.inl rfl) ?_
          show am_wp L xs _ _ _ _ 49 [.ref 0, .int 2, .int x2, .int 3, .int x4, .int x5, .ref 69, .ref 71] [.int 0] (am_S b) h _
          refine wp_if_t rfl (show (0 : Int32) = 0 from by decide) ?_
          refine wp_run 1 (pc' := 60) (ls' := [.ref 0, .int 2, .int x2, .int 3, .int x4, .int x5, .ref 69, .ref 71]) (st' := [.ref 69]) rfl ?_
          refine wp_geti (a := 1) (h 69 1) rfl rfl rfl rfl ?_
          refine wp_run 1 (pc' := 65) (ls' := [.ref 0, .int 2, .int x2, .int 3, .int x4, .int x5, .ref 69, .ref 71]) (st' := [.ref 71, .int (h 69 1)]) rfl ?_
          refine wp_geti (a := 1) (h 71 1) rfl rfl rfl rfl ?_
          refine wp_icmp rfl (fun (cqe : (h 69 1) = (h 71 1)) => ?_) (fun (cqe : ¬ ((h 69 1) = (h 71 1))) => ?_)
          · skip
            refine wp_run 3 (pc' := 82) (ls' := [.ref 0, .int 2, .int x2, .int 3, .int x4, .int x5, .ref 69, .ref 71]) (st' := [.int x5, .int x2, .ref 69]) rfl ?_
            refine wp_callV (o := 69) (as := [.int x2, .int x5]) (rest := []) (els := [.ref 69, .int x2, .int x5]) rfl rfl rfl rfl rfl rfl rfl rfl (by omega) ?_
            refine sp_holds (h := h) (o := 69) (l := l) rfl ho2 hl24 (by omega) ?_ ?_
            · skip
              intro k2 k5 e5 e2 hle1
              subst e5
              subst e2
              show am_wp L xs _ _ _ _ 85 [.ref 0, .int 2, .int (nI k2), .int 3, .int x4, .int (nI k5), .ref 69, .ref 71] [.int 1] (am_S b) h _
              refine wp_if_f rfl (show ¬ ((1 : Int32) = 0) from by decide) ?_
              refine wp_run 3 (pc' := 94) (ls' := [.ref 0, .int 2, .int (nI k2), .int 3, .int x4, .int (nI k5), .ref 69, .ref 71]) (st' := [.int (nI k5), .int x4, .ref 71]) rfl ?_
              refine wp_callV (o := 71) (as := [.int x4, .int (nI k5)]) (rest := []) (els := [.ref 71, .int x4, .int (nI k5)]) rfl rfl rfl rfl rfl rfl rfl rfl (by omega) ?_
              refine sp_holds (h := h) (o := 71) (l := lB) rfl ho2B hl24B (by omega) ?_ ?_
              · skip
                intro k4 n4 q1 e4 hle2
                have en := pu_inj (by omega) (by omega) q1
                subst en
                subst e4
                show am_wp L xs _ _ _ _ 97 [.ref 0, .int 2, .int (nI k2), .int 3, .int (nI k4), .int (nI k5), .ref 69, .ref 71] [.int 1] (am_S b) h _
                refine wp_if_t rfl (show ¬ (1 : Int32) = 0 from by decide) ?_
                refine wp_run 1 (pc' := 108) (ls' := [.ref 0, .int 2, .int (nI k2), .int 3, .int (nI k4), .int (nI k5), .ref 69, .ref 71]) (st' := [.ref 69]) rfl ?_
                refine wp_getr 70 rfl rfl rfl ?_
                refine wp_run 2 (pc' := 114) (ls' := [.ref 0, .int 2, .int (nI k2), .int 3, .int (nI k4), .int (nI k5), .ref 69, .ref 71]) (st' := [.ref 71, .int (nI k2), .ref 70]) rfl ?_
                refine wp_getr 72 rfl rfl rfl ?_
                refine wp_run 2 (pc' := 121) (ls' := [.ref 0, .int 2, .int (nI k2), .int 3, .int (nI k4), .int (nI k5), .ref 69, .ref 71]) (st' := [.int (nI k5), .int (nI k4), .ref 72, .int (nI k2), .ref 70]) rfl ?_
                refine wp_copy (q := 70) (o := 72) (sp := k2) (dp := k4) (n := k5) rfl rfl rfl rfl rfl rfl (by omega) (by omega) (by omega) (by omega) rfl (by omega) ?_
                refine wp_run 1 (pc' := 126) (ls' := [.ref 0, .int 2, .int (nI k2), .int 3, .int (nI k4), .int (nI k5), .ref 69, .ref 71]) (st' := [.int (nI k5)]) rfl ?_
                refine wp_ret rfl ?_
                refine kk _ _ _ (fun ms2 Q2 kk2 => ?_)
                refine wp_run 6 (pc' := 8) (ls' := [.ref 74, .int 2, .int (nI k2), .int 3, .int (nI k4), .int (nI k5), am_du, am_du, am_du]) (st' := [.int (nI k5), .int (nI k4), .int 3, .int (nI k2), .int 2, .ref 74]) rfl ?_
                refine wp_callV (o := 74) (as := [.int 2, .int (nI k2), .int 3, .int (nI k4), .int (nI k5)]) (rest := []) (els := [.ref 74, .int 2, .int (nI k2), .int 3, .int (nI k4), .int (nI k5), am_du]) rfl rfl rfl rfl rfl rfl rfl rfl (by omega) ?_
                refine wp_run 1 (pc' := 1) (ls' := [.ref 74, .int 2, .int (nI k2), .int 3, .int (nI k4), .int (nI k5), am_du]) (st' := [.int 2]) rfl ?_
                refine wp_callS (as := [.int 2]) (rest := []) (els := [.int 2]) rfl rfl rfl rfl rfl rfl rfl rfl (by omega) ?_
                refine sp_m_isSheet (by omega) (fun _ _ _ => ?_) (fun q => absurd rfl (q 2 (by omega)))
                show am_wp L xs _ _ _ _ 4 [.ref 74, .int 2, .int (nI k2), .int 3, .int (nI k4), .int (nI k5), am_du] [.int 1] (am_S b) (am_ur h 72 (va_cpy (h 70) (h 72) k2 k4 k5)) _
                refine wp_if_f rfl (show ¬ ((1 : Int32) = 0) from by decide) ?_
                refine wp_run 1 (pc' := 8) (ls' := [.ref 74, .int 2, .int (nI k2), .int 3, .int (nI k4), .int (nI k5), am_du]) (st' := [.int 3]) rfl ?_
                refine wp_callS (as := [.int 3]) (rest := []) (els := [.int 3]) rfl rfl rfl rfl rfl rfl rfl rfl (by omega) ?_
                refine sp_m_isSheet (by omega) (fun _ _ _ => ?_) (fun q => absurd rfl (q 3 (by omega)))
                show am_wp L xs _ _ _ _ 11 [.ref 74, .int 2, .int (nI k2), .int 3, .int (nI k4), .int (nI k5), am_du] [.int 1] (am_S b) (am_ur h 72 (va_cpy (h 70) (h 72) k2 k4 k5)) _
                refine wp_if_t rfl (show ¬ (1 : Int32) = 0 from by decide) ?_
                refine wp_run 1 (pc' := 18) (ls' := [.ref 74, .int 2, .int (nI k2), .int 3, .int (nI k4), .int (nI k5), am_du]) (st' := [.ref 74]) rfl ?_
                refine wp_getr 78 rfl rfl rfl ?_
                refine wp_run 1 (pc' := 22) (ls' := [.ref 74, .int 2, .int (nI k2), .int 3, .int (nI k4), .int (nI k5), am_du]) (st' := [.int 2, .ref 78]) rfl ?_
                refine wp_ald (i := 2) (h 78 2) rfl rfl rfl rfl (by decide) rfl ?_
                refine wp_if_f rfl (show ¬ ((h 78 2) = 0) from (fun q => cqz0 (hob.trans q))) ?_
                refine wp_run 1 (pc' := 27) (ls' := [.ref 74, .int 2, .int (nI k2), .int 3, .int (nI k4), .int (nI k5), am_du]) (st' := [.ref 74]) rfl ?_
                refine wp_getr 78 rfl rfl rfl ?_
                refine wp_run 1 (pc' := 31) (ls' := [.ref 74, .int 2, .int (nI k2), .int 3, .int (nI k4), .int (nI k5), am_du]) (st' := [.int 3, .ref 78]) rfl ?_
                refine wp_ald (i := 3) (h 78 3) rfl rfl rfl rfl (by decide) rfl ?_
                refine wp_if_t rfl (show ¬ (h 78 3) = 0 from (fun q => cqz1 (hobB.trans q))) ?_
                refine wp_run 1 (pc' := 39) (ls' := [.ref 74, .int 2, .int (nI k2), .int 3, .int (nI k4), .int (nI k5), am_du]) (st' := [.ref 74]) rfl ?_
                refine wp_getr 78 rfl rfl rfl ?_
                refine wp_run 1 (pc' := 43) (ls' := [.ref 74, .int 2, .int (nI k2), .int 3, .int (nI k4), .int (nI k5), am_du]) (st' := [.int 2, .ref 78]) rfl ?_
                refine wp_ald (i := 2) (h 78 2) rfl rfl rfl rfl (by decide) rfl ?_
                refine wp_run 1 (pc' := 45) (ls' := [.ref 74, .int 2, .int (nI k2), .int 3, .int (nI k4), .int (nI k5), am_du]) (st' := [.ref 74, .int (h 78 2)]) rfl ?_
                refine wp_getr 78 rfl rfl rfl ?_
                refine wp_run 1 (pc' := 49) (ls' := [.ref 74, .int 2, .int (nI k2), .int 3, .int (nI k4), .int (nI k5), am_du]) (st' := [.int 3, .ref 78, .int (h 78 2)]) rfl ?_
                refine wp_ald (i := 3) (h 78 3) rfl rfl rfl rfl (by decide) rfl ?_
                refine wp_icmp_t rfl (show (h 78 2) = (h 78 3) from (hob.symm.trans (cqe.trans hobB))) ?_
                refine wp_run 1 (pc' := 58) (ls' := [.ref 74, .int 2, .int (nI k2), .int 3, .int (nI k4), .int (nI k5), am_du]) (st' := [.int (nI k5)]) rfl ?_
                refine wp_if_f rfl (show ¬ ((nI k5) < 0) from mt (nI_ltI (a := k5) (b := 0) (by omega) (by omega)).mp (by omega)) ?_
                refine wp_run 1 (pc' := 62) (ls' := [.ref 74, .int 2, .int (nI k2), .int 3, .int (nI k4), .int (nI k5), am_du]) (st' := [.int (nI k2)]) rfl ?_
                refine wp_if_f rfl (show ¬ ((nI k2) < 0) from mt (nI_ltI (a := k2) (b := 0) (by omega) (by omega)).mp (by omega)) ?_
                refine wp_run 1 (pc' := 67) (ls' := [.ref 74, .int 2, .int (nI k2), .int 3, .int (nI k4), .int (nI k5), am_du]) (st' := [.int (nI k4)]) rfl ?_
                refine wp_if_f rfl (show ¬ ((nI k4) < 0) from mt (nI_ltI (a := k4) (b := 0) (by omega) (by omega)).mp (by omega)) ?_
                refine wp_run 2 (pc' := 73) (ls' := [.ref 74, .int 2, .int (nI k2), .int 3, .int (nI k4), .int (nI k5), am_du]) (st' := [.ref 74, .int (nI k5)]) rfl ?_
                refine wp_getr 79 rfl rfl rfl ?_
                refine wp_run 1 (pc' := 77) (ls' := [.ref 74, .int 2, .int (nI k2), .int 3, .int (nI k4), .int (nI k5), am_du]) (st' := [.int 2, .ref 79, .int (nI k5)]) rfl ?_
                refine wp_ald (i := 2) (nI l) hz2 rfl rfl rfl (by decide) rfl ?_
                refine wp_run 2 (pc' := 80) (ls' := [.ref 74, .int 2, .int (nI k2), .int 3, .int (nI k4), .int (nI k5), am_du]) (st' := [.int ((nI l) - (nI k2)), .int (nI k5)]) rfl ?_
                refine wp_icmp_f rfl (show ¬ (((nI l) - (nI k2)) < (nI k5)) from Int32.not_lt.mpr ((pu_suble (by omega) (by omega) hl24).mpr (by omega))) ?_
                refine wp_run 2 (pc' := 86) (ls' := [.ref 74, .int 2, .int (nI k2), .int 3, .int (nI k4), .int (nI k5), am_du]) (st' := [.ref 74, .int (nI k5)]) rfl ?_
                refine wp_getr 79 rfl rfl rfl ?_
                refine wp_run 1 (pc' := 90) (ls' := [.ref 74, .int 2, .int (nI k2), .int 3, .int (nI k4), .int (nI k5), am_du]) (st' := [.int 3, .ref 79, .int (nI k5)]) rfl ?_
                refine wp_ald (i := 3) (nI lB) hz2B rfl rfl rfl (by decide) rfl ?_
                refine wp_run 2 (pc' := 94) (ls' := [.ref 74, .int 2, .int (nI k2), .int 3, .int (nI k4), .int (nI k5), am_du]) (st' := [.int ((nI lB) - (nI k4)), .int (nI k5)]) rfl ?_
                refine wp_icmp_f rfl (show ¬ (((nI lB) - (nI k4)) < (nI k5)) from Int32.not_lt.mpr ((pu_suble (by omega) (by omega) hl24B).mpr (by omega))) ?_
                refine wp_run 4 (pc' := 106) (ls' := [.ref 74, .int 2, .int (nI k2), .int 3, .int (nI k4), .int (nI k5), .int 1]) (st' := [.int 1]) rfl ?_
                refine wp_if_f rfl (show ¬ ((1 : Int32) = 0) from by decide) ?_
                refine wp_run 2 (pc' := 115) (ls' := [.ref 74, .int 2, .int (nI k2), .int 3, .int (nI k4), .int (nI k5), .int 1]) (st' := [.int 0]) rfl ?_
                refine wp_ret rfl ?_
                show am_wp L xs _ _ _ _ 11 [.ref 74, .int 2, .int (nI k2), .int 3, .int (nI k4), .int (nI k5), am_du, am_du, am_du] [.int 0] (am_S b) (am_ur h 72 (va_cpy (h 70) (h 72) k2 k4 k5)) _
                refine wp_run 2 (pc' := 15) (ls' := [.ref 74, .int 2, .int (nI k2), .int 3, .int (nI k4), .int (nI k5), .int 0, am_du, am_du]) (st' := [.int 0]) rfl ?_
                refine wp_if_t rfl (show (0 : Int32) = 0 from by decide) ?_
                refine wp_run 2 (pc' := 28) (ls' := [.ref 74, .int 2, .int (nI k2), .int 3, .int (nI k4), .int (nI k5), .int 0, .int 0, am_du]) (st' := []) rfl ?_
                by_cases hij : k2 < k4
                · have hp := lp_mvd (L := L) (xs := xs) (d := d) (ms := ms2) (b := b) (h := (am_ur h 72 (va_cpy (h 70) (h 72) k2 k4 k5))) (Q := Q2) (s := 2) (o := 3) (i := k2) (j := k4) (n := k5) (by omega) (by omega) (by omega) (by omega) hij (by omega) ?_ k5 0 am_du (by omega)
                  · rw [mv_d0] at hp; exact hp
                  · exact kk2 _ _ ⟨⟨n, c, t, tp, wt, s0, s1, p0, p1, H⟩, re_im_s hI, hE, (re_sh_mo hS0 (by decide) (by omega)), (re_sh_mo hS1 (by decide) (by omega)), (re_sh_mo hS2 (by decide) (by omega)), (re_sh_m hS2 hS3 (by omega) (by omega)), hT⟩
                · have hp := lp_mva (L := L) (xs := xs) (d := d) (ms := ms2) (b := b) (h := (am_ur h 72 (va_cpy (h 70) (h 72) k2 k4 k5))) (Q := Q2) (s := 2) (o := 3) (i := k2) (j := k4) (n := k5) (by omega) (by omega) (by omega) (by omega) hij (by omega) ?_ k5 0 am_du (by omega)
                  · rw [mv_a0] at hp; exact hp
                  · exact kk2 _ _ ⟨⟨n, c, t, tp, wt, s0, s1, p0, p1, H⟩, re_im_s hI, hE, (re_sh_mo hS0 (by decide) (by omega)), (re_sh_mo hS1 (by decide) (by omega)), (re_sh_mo hS2 (by decide) (by omega)), (re_sh_m hS2 hS3 (by omega) (by omega)), hT⟩
              · skip
                intro hno2
                show am_wp L xs _ _ _ _ 97 [.ref 0, .int 2, .int (nI k2), .int 3, .int x4, .int (nI k5), .ref 69, .ref 71] [.int 0] (am_S b) h _
                refine wp_if_f rfl (show ¬ (¬ (0 : Int32) = 0) from by decide) ?_
                refine wp_run 2 (pc' := 102) (ls' := [.ref 0, .int 2, .int (nI k2), .int 3, .int x4, .int (nI k5), .ref 69, .ref 71]) (st' := [.int 1, .ref 0]) rfl ?_
                refine wp_callV (o := 0) (as := [.int 1]) (rest := []) (els := [.ref 0, .int 1]) rfl rfl rfl rfl rfl rfl rfl rfl (by omega) ?_
                refine sp_refuse1 (by omega) ?_
                show am_wp L xs _ _ _ _ 105 [.ref 0, .int 2, .int (nI k2), .int 3, .int x4, .int (nI k5), .ref 69, .ref 71] [.int (-1000000001)] (am_S b) (am_u h 73 1 (h 73 1 + 1)) _
                refine wp_ret rfl ?_
                refine kk _ _ _ (fun ms2 Q2 kk2 => ?_)
                refine wp_run 6 (pc' := 8) (ls' := [.ref 74, .int 2, .int (nI k2), .int 3, .int x4, .int (nI k5), am_du, am_du, am_du]) (st' := [.int (nI k5), .int x4, .int 3, .int (nI k2), .int 2, .ref 74]) rfl ?_
                refine wp_callV (o := 74) (as := [.int 2, .int (nI k2), .int 3, .int x4, .int (nI k5)]) (rest := []) (els := [.ref 74, .int 2, .int (nI k2), .int 3, .int x4, .int (nI k5), am_du]) rfl rfl rfl rfl rfl rfl rfl rfl (by omega) ?_
                refine wp_run 1 (pc' := 1) (ls' := [.ref 74, .int 2, .int (nI k2), .int 3, .int x4, .int (nI k5), am_du]) (st' := [.int 2]) rfl ?_
                refine wp_callS (as := [.int 2]) (rest := []) (els := [.int 2]) rfl rfl rfl rfl rfl rfl rfl rfl (by omega) ?_
                refine sp_m_isSheet (by omega) (fun _ _ _ => ?_) (fun q => absurd rfl (q 2 (by omega)))
                show am_wp L xs _ _ _ _ 4 [.ref 74, .int 2, .int (nI k2), .int 3, .int x4, .int (nI k5), am_du] [.int 1] (am_S b) (am_u h 73 1 (h 73 1 + 1)) _
                refine wp_if_f rfl (show ¬ ((1 : Int32) = 0) from by decide) ?_
                refine wp_run 1 (pc' := 8) (ls' := [.ref 74, .int 2, .int (nI k2), .int 3, .int x4, .int (nI k5), am_du]) (st' := [.int 3]) rfl ?_
                refine wp_callS (as := [.int 3]) (rest := []) (els := [.int 3]) rfl rfl rfl rfl rfl rfl rfl rfl (by omega) ?_
                refine sp_m_isSheet (by omega) (fun _ _ _ => ?_) (fun q => absurd rfl (q 3 (by omega)))
                show am_wp L xs _ _ _ _ 11 [.ref 74, .int 2, .int (nI k2), .int 3, .int x4, .int (nI k5), am_du] [.int 1] (am_S b) (am_u h 73 1 (h 73 1 + 1)) _
                refine wp_if_t rfl (show ¬ (1 : Int32) = 0 from by decide) ?_
                refine wp_run 1 (pc' := 18) (ls' := [.ref 74, .int 2, .int (nI k2), .int 3, .int x4, .int (nI k5), am_du]) (st' := [.ref 74]) rfl ?_
                refine wp_getr 78 rfl rfl rfl ?_
                refine wp_run 1 (pc' := 22) (ls' := [.ref 74, .int 2, .int (nI k2), .int 3, .int x4, .int (nI k5), am_du]) (st' := [.int 2, .ref 78]) rfl ?_
                refine wp_ald (i := 2) (h 78 2) rfl rfl rfl rfl (by decide) rfl ?_
                refine wp_if_f rfl (show ¬ ((h 78 2) = 0) from (fun q => cqz0 (hob.trans q))) ?_
                refine wp_run 1 (pc' := 27) (ls' := [.ref 74, .int 2, .int (nI k2), .int 3, .int x4, .int (nI k5), am_du]) (st' := [.ref 74]) rfl ?_
                refine wp_getr 78 rfl rfl rfl ?_
                refine wp_run 1 (pc' := 31) (ls' := [.ref 74, .int 2, .int (nI k2), .int 3, .int x4, .int (nI k5), am_du]) (st' := [.int 3, .ref 78]) rfl ?_
                refine wp_ald (i := 3) (h 78 3) rfl rfl rfl rfl (by decide) rfl ?_
                refine wp_if_t rfl (show ¬ (h 78 3) = 0 from (fun q => cqz1 (hobB.trans q))) ?_
                refine wp_run 1 (pc' := 39) (ls' := [.ref 74, .int 2, .int (nI k2), .int 3, .int x4, .int (nI k5), am_du]) (st' := [.ref 74]) rfl ?_
                refine wp_getr 78 rfl rfl rfl ?_
                refine wp_run 1 (pc' := 43) (ls' := [.ref 74, .int 2, .int (nI k2), .int 3, .int x4, .int (nI k5), am_du]) (st' := [.int 2, .ref 78]) rfl ?_
                refine wp_ald (i := 2) (h 78 2) rfl rfl rfl rfl (by decide) rfl ?_
                refine wp_run 1 (pc' := 45) (ls' := [.ref 74, .int 2, .int (nI k2), .int 3, .int x4, .int (nI k5), am_du]) (st' := [.ref 74, .int (h 78 2)]) rfl ?_
                refine wp_getr 78 rfl rfl rfl ?_
                refine wp_run 1 (pc' := 49) (ls' := [.ref 74, .int 2, .int (nI k2), .int 3, .int x4, .int (nI k5), am_du]) (st' := [.int 3, .ref 78, .int (h 78 2)]) rfl ?_
                refine wp_ald (i := 3) (h 78 3) rfl rfl rfl rfl (by decide) rfl ?_
                refine wp_icmp_t rfl (show (h 78 2) = (h 78 3) from (hob.symm.trans (cqe.trans hobB))) ?_
                refine wp_run 1 (pc' := 58) (ls' := [.ref 74, .int 2, .int (nI k2), .int 3, .int x4, .int (nI k5), am_du]) (st' := [.int (nI k5)]) rfl ?_
                refine wp_if_f rfl (show ¬ ((nI k5) < 0) from mt (nI_ltI (a := k5) (b := 0) (by omega) (by omega)).mp (by omega)) ?_
                refine wp_run 1 (pc' := 62) (ls' := [.ref 74, .int 2, .int (nI k2), .int 3, .int x4, .int (nI k5), am_du]) (st' := [.int (nI k2)]) rfl ?_
                refine wp_if_f rfl (show ¬ ((nI k2) < 0) from mt (nI_ltI (a := k2) (b := 0) (by omega) (by omega)).mp (by omega)) ?_
                refine wp_run 1 (pc' := 67) (ls' := [.ref 74, .int 2, .int (nI k2), .int 3, .int x4, .int (nI k5), am_du]) (st' := [.int x4]) rfl ?_
                refine wp_if rfl (fun (cq67 : x4 < 0) => ?_) (fun (cq67 : ¬ (x4 < 0)) => ?_)
                · skip
                  refine wp_run 3 (pc' := 106) (ls' := [.ref 74, .int 2, .int (nI k2), .int 3, .int x4, .int (nI k5), .int 0]) (st' := [.int 0]) rfl ?_
                  refine wp_if_t rfl (show (0 : Int32) = 0 from by decide) ?_
                  refine wp_run 1 (pc' := 115) (ls' := [.ref 74, .int 2, .int (nI k2), .int 3, .int x4, .int (nI k5), .int 0]) (st' := [.int (-1000000001)]) rfl ?_
                  refine wp_ret rfl ?_
                  show am_wp L xs _ _ _ _ 11 [.ref 74, .int 2, .int (nI k2), .int 3, .int x4, .int (nI k5), am_du, am_du, am_du] [.int (-1000000001)] (am_S b) (am_u h 73 1 (h 73 1 + 1)) _
                  refine wp_run 2 (pc' := 15) (ls' := [.ref 74, .int 2, .int (nI k2), .int 3, .int x4, .int (nI k5), .int (-1000000001), am_du, am_du]) (st' := [.int (-1000000001)]) rfl ?_
                  refine wp_if_f rfl (show ¬ (((-1000000001) : Int32) = 0) from by decide) ?_
                  refine wp_run 2 (pc' := 21) (ls' := [.ref 74, .int 2, .int (nI k2), .int 3, .int x4, .int (nI k5), .int (-1000000001), am_du, am_du]) (st' := [.int (-1000000001), .ref 74]) rfl ?_
                  refine wp_callV (o := 74) (as := [.int (-1000000001)]) (rest := []) (els := [.ref 74, .int (-1000000001)]) rfl rfl rfl rfl rfl rfl rfl rfl (by omega) ?_
                  refine sp_error1 ?_
                  show am_wp L xs _ _ _ _ 24 [.ref 74, .int 2, .int (nI k2), .int 3, .int x4, .int (nI k5), .int (-1000000001), am_du, am_du] [.int (-1000000001)] (am_S b) (am_u (am_u h 73 1 (h 73 1 + 1)) 77 1 ((am_u h 73 1 (h 73 1 + 1)) 77 1 + 1)) _
                  refine wp_ret rfl ?_
                  exact kk2 _ _ (re_err1 hR)
                · skip
                  obtain ⟨k4, hk4, ek4⟩ := pu_nonneg (Int32.not_lt.mp cq67)
                  subst ek4
                  refine wp_run 2 (pc' := 73) (ls' := [.ref 74, .int 2, .int (nI k2), .int 3, .int (nI k4), .int (nI k5), am_du]) (st' := [.ref 74, .int (nI k5)]) rfl ?_
                  refine wp_getr 79 rfl rfl rfl ?_
                  refine wp_run 1 (pc' := 77) (ls' := [.ref 74, .int 2, .int (nI k2), .int 3, .int (nI k4), .int (nI k5), am_du]) (st' := [.int 2, .ref 79, .int (nI k5)]) rfl ?_
                  refine wp_ald (i := 2) (nI l) hz2 rfl rfl rfl (by decide) rfl ?_
                  refine wp_run 2 (pc' := 80) (ls' := [.ref 74, .int 2, .int (nI k2), .int 3, .int (nI k4), .int (nI k5), am_du]) (st' := [.int ((nI l) - (nI k2)), .int (nI k5)]) rfl ?_
                  refine wp_icmp_f rfl (show ¬ (((nI l) - (nI k2)) < (nI k5)) from Int32.not_lt.mpr ((pu_suble (by omega) (by omega) hl24).mpr (by omega))) ?_
                  refine wp_run 2 (pc' := 86) (ls' := [.ref 74, .int 2, .int (nI k2), .int 3, .int (nI k4), .int (nI k5), am_du]) (st' := [.ref 74, .int (nI k5)]) rfl ?_
                  refine wp_getr 79 rfl rfl rfl ?_
                  refine wp_run 1 (pc' := 90) (ls' := [.ref 74, .int 2, .int (nI k2), .int 3, .int (nI k4), .int (nI k5), am_du]) (st' := [.int 3, .ref 79, .int (nI k5)]) rfl ?_
                  refine wp_ald (i := 3) (nI lB) hz2B rfl rfl rfl (by decide) rfl ?_
                  refine wp_run 2 (pc' := 94) (ls' := [.ref 74, .int 2, .int (nI k2), .int 3, .int (nI k4), .int (nI k5), am_du]) (st' := [.int ((nI lB) - (nI k4)), .int (nI k5)]) rfl ?_
                  refine wp_icmp_t rfl (show ((nI lB) - (nI k4)) < (nI k5) from Int32.not_le.mp (fun q => hno2 k4 k5 rfl rfl (by have := (pu_suble (by omega) (by omega) hl24B).mp q; omega))) ?_
                  refine wp_run 3 (pc' := 106) (ls' := [.ref 74, .int 2, .int (nI k2), .int 3, .int (nI k4), .int (nI k5), .int 0]) (st' := [.int 0]) rfl ?_
                  refine wp_if_t rfl (show (0 : Int32) = 0 from by decide) ?_
                  refine wp_run 1 (pc' := 115) (ls' := [.ref 74, .int 2, .int (nI k2), .int 3, .int (nI k4), .int (nI k5), .int 0]) (st' := [.int (-1000000001)]) rfl ?_
                  refine wp_ret rfl ?_
                  show am_wp L xs _ _ _ _ 11 [.ref 74, .int 2, .int (nI k2), .int 3, .int (nI k4), .int (nI k5), am_du, am_du, am_du] [.int (-1000000001)] (am_S b) (am_u h 73 1 (h 73 1 + 1)) _
                  refine wp_run 2 (pc' := 15) (ls' := [.ref 74, .int 2, .int (nI k2), .int 3, .int (nI k4), .int (nI k5), .int (-1000000001), am_du, am_du]) (st' := [.int (-1000000001)]) rfl ?_
                  refine wp_if_f rfl (show ¬ (((-1000000001) : Int32) = 0) from by decide) ?_
                  refine wp_run 2 (pc' := 21) (ls' := [.ref 74, .int 2, .int (nI k2), .int 3, .int (nI k4), .int (nI k5), .int (-1000000001), am_du, am_du]) (st' := [.int (-1000000001), .ref 74]) rfl ?_
                  refine wp_callV (o := 74) (as := [.int (-1000000001)]) (rest := []) (els := [.ref 74, .int (-1000000001)]) rfl rfl rfl rfl rfl rfl rfl rfl (by omega) ?_
                  refine sp_error1 ?_
                  show am_wp L xs _ _ _ _ 24 [.ref 74, .int 2, .int (nI k2), .int 3, .int (nI k4), .int (nI k5), .int (-1000000001), am_du, am_du] [.int (-1000000001)] (am_S b) (am_u (am_u h 73 1 (h 73 1 + 1)) 77 1 ((am_u h 73 1 (h 73 1 + 1)) 77 1 + 1)) _
                  refine wp_ret rfl ?_
                  exact kk2 _ _ (re_err1 hR)
            · skip
              intro hno1
              show am_wp L xs _ _ _ _ 85 [.ref 0, .int 2, .int x2, .int 3, .int x4, .int x5, .ref 69, .ref 71] [.int 0] (am_S b) h _
              refine wp_if_t rfl (show (0 : Int32) = 0 from by decide) ?_
              refine wp_run 2 (pc' := 102) (ls' := [.ref 0, .int 2, .int x2, .int 3, .int x4, .int x5, .ref 69, .ref 71]) (st' := [.int 1, .ref 0]) rfl ?_
              refine wp_callV (o := 0) (as := [.int 1]) (rest := []) (els := [.ref 0, .int 1]) rfl rfl rfl rfl rfl rfl rfl rfl (by omega) ?_
              refine sp_refuse1 (by omega) ?_
              show am_wp L xs _ _ _ _ 105 [.ref 0, .int 2, .int x2, .int 3, .int x4, .int x5, .ref 69, .ref 71] [.int (-1000000001)] (am_S b) (am_u h 73 1 (h 73 1 + 1)) _
              refine wp_ret rfl ?_
              refine kk _ _ _ (fun ms2 Q2 kk2 => ?_)
              refine wp_run 6 (pc' := 8) (ls' := [.ref 74, .int 2, .int x2, .int 3, .int x4, .int x5, am_du, am_du, am_du]) (st' := [.int x5, .int x4, .int 3, .int x2, .int 2, .ref 74]) rfl ?_
              refine wp_callV (o := 74) (as := [.int 2, .int x2, .int 3, .int x4, .int x5]) (rest := []) (els := [.ref 74, .int 2, .int x2, .int 3, .int x4, .int x5, am_du]) rfl rfl rfl rfl rfl rfl rfl rfl (by omega) ?_
              refine wp_run 1 (pc' := 1) (ls' := [.ref 74, .int 2, .int x2, .int 3, .int x4, .int x5, am_du]) (st' := [.int 2]) rfl ?_
              refine wp_callS (as := [.int 2]) (rest := []) (els := [.int 2]) rfl rfl rfl rfl rfl rfl rfl rfl (by omega) ?_
              refine sp_m_isSheet (by omega) (fun _ _ _ => ?_) (fun q => absurd rfl (q 2 (by omega)))
              show am_wp L xs _ _ _ _ 4 [.ref 74, .int 2, .int x2, .int 3, .int x4, .int x5, am_du] [.int 1] (am_S b) (am_u h 73 1 (h 73 1 + 1)) _
              refine wp_if_f rfl (show ¬ ((1 : Int32) = 0) from by decide) ?_
              refine wp_run 1 (pc' := 8) (ls' := [.ref 74, .int 2, .int x2, .int 3, .int x4, .int x5, am_du]) (st' := [.int 3]) rfl ?_
              refine wp_callS (as := [.int 3]) (rest := []) (els := [.int 3]) rfl rfl rfl rfl rfl rfl rfl rfl (by omega) ?_
              refine sp_m_isSheet (by omega) (fun _ _ _ => ?_) (fun q => absurd rfl (q 3 (by omega)))
              show am_wp L xs _ _ _ _ 11 [.ref 74, .int 2, .int x2, .int 3, .int x4, .int x5, am_du] [.int 1] (am_S b) (am_u h 73 1 (h 73 1 + 1)) _
              refine wp_if_t rfl (show ¬ (1 : Int32) = 0 from by decide) ?_
              refine wp_run 1 (pc' := 18) (ls' := [.ref 74, .int 2, .int x2, .int 3, .int x4, .int x5, am_du]) (st' := [.ref 74]) rfl ?_
              refine wp_getr 78 rfl rfl rfl ?_
              refine wp_run 1 (pc' := 22) (ls' := [.ref 74, .int 2, .int x2, .int 3, .int x4, .int x5, am_du]) (st' := [.int 2, .ref 78]) rfl ?_
              refine wp_ald (i := 2) (h 78 2) rfl rfl rfl rfl (by decide) rfl ?_
              refine wp_if_f rfl (show ¬ ((h 78 2) = 0) from (fun q => cqz0 (hob.trans q))) ?_
              refine wp_run 1 (pc' := 27) (ls' := [.ref 74, .int 2, .int x2, .int 3, .int x4, .int x5, am_du]) (st' := [.ref 74]) rfl ?_
              refine wp_getr 78 rfl rfl rfl ?_
              refine wp_run 1 (pc' := 31) (ls' := [.ref 74, .int 2, .int x2, .int 3, .int x4, .int x5, am_du]) (st' := [.int 3, .ref 78]) rfl ?_
              refine wp_ald (i := 3) (h 78 3) rfl rfl rfl rfl (by decide) rfl ?_
              refine wp_if_t rfl (show ¬ (h 78 3) = 0 from (fun q => cqz1 (hobB.trans q))) ?_
              refine wp_run 1 (pc' := 39) (ls' := [.ref 74, .int 2, .int x2, .int 3, .int x4, .int x5, am_du]) (st' := [.ref 74]) rfl ?_
              refine wp_getr 78 rfl rfl rfl ?_
              refine wp_run 1 (pc' := 43) (ls' := [.ref 74, .int 2, .int x2, .int 3, .int x4, .int x5, am_du]) (st' := [.int 2, .ref 78]) rfl ?_
              refine wp_ald (i := 2) (h 78 2) rfl rfl rfl rfl (by decide) rfl ?_
              refine wp_run 1 (pc' := 45) (ls' := [.ref 74, .int 2, .int x2, .int 3, .int x4, .int x5, am_du]) (st' := [.ref 74, .int (h 78 2)]) rfl ?_
              refine wp_getr 78 rfl rfl rfl ?_
              refine wp_run 1 (pc' := 49) (ls' := [.ref 74, .int 2, .int x2, .int 3, .int x4, .int x5, am_du]) (st' := [.int 3, .ref 78, .int (h 78 2)]) rfl ?_
              refine wp_ald (i := 3) (h 78 3) rfl rfl rfl rfl (by decide) rfl ?_
              refine wp_icmp_t rfl (show (h 78 2) = (h 78 3) from (hob.symm.trans (cqe.trans hobB))) ?_
              refine wp_run 1 (pc' := 58) (ls' := [.ref 74, .int 2, .int x2, .int 3, .int x4, .int x5, am_du]) (st' := [.int x5]) rfl ?_
              refine wp_if rfl (fun (cq58 : x5 < 0) => ?_) (fun (cq58 : ¬ (x5 < 0)) => ?_)
              · skip
                refine wp_run 3 (pc' := 106) (ls' := [.ref 74, .int 2, .int x2, .int 3, .int x4, .int x5, .int 0]) (st' := [.int 0]) rfl ?_
                refine wp_if_t rfl (show (0 : Int32) = 0 from by decide) ?_
                refine wp_run 1 (pc' := 115) (ls' := [.ref 74, .int 2, .int x2, .int 3, .int x4, .int x5, .int 0]) (st' := [.int (-1000000001)]) rfl ?_
                refine wp_ret rfl ?_
                show am_wp L xs _ _ _ _ 11 [.ref 74, .int 2, .int x2, .int 3, .int x4, .int x5, am_du, am_du, am_du] [.int (-1000000001)] (am_S b) (am_u h 73 1 (h 73 1 + 1)) _
                refine wp_run 2 (pc' := 15) (ls' := [.ref 74, .int 2, .int x2, .int 3, .int x4, .int x5, .int (-1000000001), am_du, am_du]) (st' := [.int (-1000000001)]) rfl ?_
                refine wp_if_f rfl (show ¬ (((-1000000001) : Int32) = 0) from by decide) ?_
                refine wp_run 2 (pc' := 21) (ls' := [.ref 74, .int 2, .int x2, .int 3, .int x4, .int x5, .int (-1000000001), am_du, am_du]) (st' := [.int (-1000000001), .ref 74]) rfl ?_
                refine wp_callV (o := 74) (as := [.int (-1000000001)]) (rest := []) (els := [.ref 74, .int (-1000000001)]) rfl rfl rfl rfl rfl rfl rfl rfl (by omega) ?_
                refine sp_error1 ?_
                show am_wp L xs _ _ _ _ 24 [.ref 74, .int 2, .int x2, .int 3, .int x4, .int x5, .int (-1000000001), am_du, am_du] [.int (-1000000001)] (am_S b) (am_u (am_u h 73 1 (h 73 1 + 1)) 77 1 ((am_u h 73 1 (h 73 1 + 1)) 77 1 + 1)) _
                refine wp_ret rfl ?_
                exact kk2 _ _ (re_err1 hR)
              · skip
                obtain ⟨k5, hk5, ek5⟩ := pu_nonneg (Int32.not_lt.mp cq58)
                subst ek5
                refine wp_run 1 (pc' := 62) (ls' := [.ref 74, .int 2, .int x2, .int 3, .int x4, .int (nI k5), am_du]) (st' := [.int x2]) rfl ?_
                refine wp_if rfl (fun (cq62 : x2 < 0) => ?_) (fun (cq62 : ¬ (x2 < 0)) => ?_)
                · skip
                  refine wp_run 3 (pc' := 106) (ls' := [.ref 74, .int 2, .int x2, .int 3, .int x4, .int (nI k5), .int 0]) (st' := [.int 0]) rfl ?_
                  refine wp_if_t rfl (show (0 : Int32) = 0 from by decide) ?_
                  refine wp_run 1 (pc' := 115) (ls' := [.ref 74, .int 2, .int x2, .int 3, .int x4, .int (nI k5), .int 0]) (st' := [.int (-1000000001)]) rfl ?_
                  refine wp_ret rfl ?_
                  show am_wp L xs _ _ _ _ 11 [.ref 74, .int 2, .int x2, .int 3, .int x4, .int (nI k5), am_du, am_du, am_du] [.int (-1000000001)] (am_S b) (am_u h 73 1 (h 73 1 + 1)) _
                  refine wp_run 2 (pc' := 15) (ls' := [.ref 74, .int 2, .int x2, .int 3, .int x4, .int (nI k5), .int (-1000000001), am_du, am_du]) (st' := [.int (-1000000001)]) rfl ?_
                  refine wp_if_f rfl (show ¬ (((-1000000001) : Int32) = 0) from by decide) ?_
                  refine wp_run 2 (pc' := 21) (ls' := [.ref 74, .int 2, .int x2, .int 3, .int x4, .int (nI k5), .int (-1000000001), am_du, am_du]) (st' := [.int (-1000000001), .ref 74]) rfl ?_
                  refine wp_callV (o := 74) (as := [.int (-1000000001)]) (rest := []) (els := [.ref 74, .int (-1000000001)]) rfl rfl rfl rfl rfl rfl rfl rfl (by omega) ?_
                  refine sp_error1 ?_
                  show am_wp L xs _ _ _ _ 24 [.ref 74, .int 2, .int x2, .int 3, .int x4, .int (nI k5), .int (-1000000001), am_du, am_du] [.int (-1000000001)] (am_S b) (am_u (am_u h 73 1 (h 73 1 + 1)) 77 1 ((am_u h 73 1 (h 73 1 + 1)) 77 1 + 1)) _
                  refine wp_ret rfl ?_
                  exact kk2 _ _ (re_err1 hR)
                · skip
                  obtain ⟨k2, hk2, ek2⟩ := pu_nonneg (Int32.not_lt.mp cq62)
                  subst ek2
                  refine wp_run 1 (pc' := 67) (ls' := [.ref 74, .int 2, .int (nI k2), .int 3, .int x4, .int (nI k5), am_du]) (st' := [.int x4]) rfl ?_
                  refine wp_if rfl (fun (cq67 : x4 < 0) => ?_) (fun (cq67 : ¬ (x4 < 0)) => ?_)
                  · skip
                    refine wp_run 3 (pc' := 106) (ls' := [.ref 74, .int 2, .int (nI k2), .int 3, .int x4, .int (nI k5), .int 0]) (st' := [.int 0]) rfl ?_
                    refine wp_if_t rfl (show (0 : Int32) = 0 from by decide) ?_
                    refine wp_run 1 (pc' := 115) (ls' := [.ref 74, .int 2, .int (nI k2), .int 3, .int x4, .int (nI k5), .int 0]) (st' := [.int (-1000000001)]) rfl ?_
                    refine wp_ret rfl ?_
                    show am_wp L xs _ _ _ _ 11 [.ref 74, .int 2, .int (nI k2), .int 3, .int x4, .int (nI k5), am_du, am_du, am_du] [.int (-1000000001)] (am_S b) (am_u h 73 1 (h 73 1 + 1)) _
                    refine wp_run 2 (pc' := 15) (ls' := [.ref 74, .int 2, .int (nI k2), .int 3, .int x4, .int (nI k5), .int (-1000000001), am_du, am_du]) (st' := [.int (-1000000001)]) rfl ?_
                    refine wp_if_f rfl (show ¬ (((-1000000001) : Int32) = 0) from by decide) ?_
                    refine wp_run 2 (pc' := 21) (ls' := [.ref 74, .int 2, .int (nI k2), .int 3, .int x4, .int (nI k5), .int (-1000000001), am_du, am_du]) (st' := [.int (-1000000001), .ref 74]) rfl ?_
                    refine wp_callV (o := 74) (as := [.int (-1000000001)]) (rest := []) (els := [.ref 74, .int (-1000000001)]) rfl rfl rfl rfl rfl rfl rfl rfl (by omega) ?_
                    refine sp_error1 ?_
                    show am_wp L xs _ _ _ _ 24 [.ref 74, .int 2, .int (nI k2), .int 3, .int x4, .int (nI k5), .int (-1000000001), am_du, am_du] [.int (-1000000001)] (am_S b) (am_u (am_u h 73 1 (h 73 1 + 1)) 77 1 ((am_u h 73 1 (h 73 1 + 1)) 77 1 + 1)) _
                    refine wp_ret rfl ?_
                    exact kk2 _ _ (re_err1 hR)
                  · skip
                    obtain ⟨k4, hk4, ek4⟩ := pu_nonneg (Int32.not_lt.mp cq67)
                    subst ek4
                    refine wp_run 2 (pc' := 73) (ls' := [.ref 74, .int 2, .int (nI k2), .int 3, .int (nI k4), .int (nI k5), am_du]) (st' := [.ref 74, .int (nI k5)]) rfl ?_
                    refine wp_getr 79 rfl rfl rfl ?_
                    refine wp_run 1 (pc' := 77) (ls' := [.ref 74, .int 2, .int (nI k2), .int 3, .int (nI k4), .int (nI k5), am_du]) (st' := [.int 2, .ref 79, .int (nI k5)]) rfl ?_
                    refine wp_ald (i := 2) (nI l) hz2 rfl rfl rfl (by decide) rfl ?_
                    refine wp_run 2 (pc' := 80) (ls' := [.ref 74, .int 2, .int (nI k2), .int 3, .int (nI k4), .int (nI k5), am_du]) (st' := [.int ((nI l) - (nI k2)), .int (nI k5)]) rfl ?_
                    refine wp_icmp_t rfl (show ((nI l) - (nI k2)) < (nI k5) from Int32.not_le.mp (fun q => hno1 k2 k5 rfl rfl (by have := (pu_suble (by omega) (by omega) hl24).mp q; omega))) ?_
                    refine wp_run 3 (pc' := 106) (ls' := [.ref 74, .int 2, .int (nI k2), .int 3, .int (nI k4), .int (nI k5), .int 0]) (st' := [.int 0]) rfl ?_
                    refine wp_if_t rfl (show (0 : Int32) = 0 from by decide) ?_
                    refine wp_run 1 (pc' := 115) (ls' := [.ref 74, .int 2, .int (nI k2), .int 3, .int (nI k4), .int (nI k5), .int 0]) (st' := [.int (-1000000001)]) rfl ?_
                    refine wp_ret rfl ?_
                    show am_wp L xs _ _ _ _ 11 [.ref 74, .int 2, .int (nI k2), .int 3, .int (nI k4), .int (nI k5), am_du, am_du, am_du] [.int (-1000000001)] (am_S b) (am_u h 73 1 (h 73 1 + 1)) _
                    refine wp_run 2 (pc' := 15) (ls' := [.ref 74, .int 2, .int (nI k2), .int 3, .int (nI k4), .int (nI k5), .int (-1000000001), am_du, am_du]) (st' := [.int (-1000000001)]) rfl ?_
                    refine wp_if_f rfl (show ¬ (((-1000000001) : Int32) = 0) from by decide) ?_
                    refine wp_run 2 (pc' := 21) (ls' := [.ref 74, .int 2, .int (nI k2), .int 3, .int (nI k4), .int (nI k5), .int (-1000000001), am_du, am_du]) (st' := [.int (-1000000001), .ref 74]) rfl ?_
                    refine wp_callV (o := 74) (as := [.int (-1000000001)]) (rest := []) (els := [.ref 74, .int (-1000000001)]) rfl rfl rfl rfl rfl rfl rfl rfl (by omega) ?_
                    refine sp_error1 ?_
                    show am_wp L xs _ _ _ _ 24 [.ref 74, .int 2, .int (nI k2), .int 3, .int (nI k4), .int (nI k5), .int (-1000000001), am_du, am_du] [.int (-1000000001)] (am_S b) (am_u (am_u h 73 1 (h 73 1 + 1)) 77 1 ((am_u h 73 1 (h 73 1 + 1)) 77 1 + 1)) _
                    refine wp_ret rfl ?_
                    exact kk2 _ _ (re_err1 hR)
          · skip
            refine wp_run 2 (pc' := 73) (ls' := [.ref 0, .int 2, .int x2, .int 3, .int x4, .int x5, .ref 69, .ref 71]) (st' := [.int 5, .ref 0]) rfl ?_
            refine wp_callV (o := 0) (as := [.int 5]) (rest := []) (els := [.ref 0, .int 5]) rfl rfl rfl rfl rfl rfl rfl rfl (by omega) ?_
            refine sp_refuse5 (by omega) ?_
            show am_wp L xs _ _ _ _ 76 [.ref 0, .int 2, .int x2, .int 3, .int x4, .int x5, .ref 69, .ref 71] [.int (-1000000005)] (am_S b) (am_u h 73 5 (h 73 5 + 1)) _
            refine wp_ret rfl ?_
            refine kk _ _ _ (fun ms2 Q2 kk2 => ?_)
            refine wp_run 6 (pc' := 8) (ls' := [.ref 74, .int 2, .int x2, .int 3, .int x4, .int x5, am_du, am_du, am_du]) (st' := [.int x5, .int x4, .int 3, .int x2, .int 2, .ref 74]) rfl ?_
            refine wp_callV (o := 74) (as := [.int 2, .int x2, .int 3, .int x4, .int x5]) (rest := []) (els := [.ref 74, .int 2, .int x2, .int 3, .int x4, .int x5, am_du]) rfl rfl rfl rfl rfl rfl rfl rfl (by omega) ?_
            refine wp_run 1 (pc' := 1) (ls' := [.ref 74, .int 2, .int x2, .int 3, .int x4, .int x5, am_du]) (st' := [.int 2]) rfl ?_
            refine wp_callS (as := [.int 2]) (rest := []) (els := [.int 2]) rfl rfl rfl rfl rfl rfl rfl rfl (by omega) ?_
            refine sp_m_isSheet (by omega) (fun _ _ _ => ?_) (fun q => absurd rfl (q 2 (by omega)))
            show am_wp L xs _ _ _ _ 4 [.ref 74, .int 2, .int x2, .int 3, .int x4, .int x5, am_du] [.int 1] (am_S b) (am_u h 73 5 (h 73 5 + 1)) _
            refine wp_if_f rfl (show ¬ ((1 : Int32) = 0) from by decide) ?_
            refine wp_run 1 (pc' := 8) (ls' := [.ref 74, .int 2, .int x2, .int 3, .int x4, .int x5, am_du]) (st' := [.int 3]) rfl ?_
            refine wp_callS (as := [.int 3]) (rest := []) (els := [.int 3]) rfl rfl rfl rfl rfl rfl rfl rfl (by omega) ?_
            refine sp_m_isSheet (by omega) (fun _ _ _ => ?_) (fun q => absurd rfl (q 3 (by omega)))
            show am_wp L xs _ _ _ _ 11 [.ref 74, .int 2, .int x2, .int 3, .int x4, .int x5, am_du] [.int 1] (am_S b) (am_u h 73 5 (h 73 5 + 1)) _
            refine wp_if_t rfl (show ¬ (1 : Int32) = 0 from by decide) ?_
            refine wp_run 1 (pc' := 18) (ls' := [.ref 74, .int 2, .int x2, .int 3, .int x4, .int x5, am_du]) (st' := [.ref 74]) rfl ?_
            refine wp_getr 78 rfl rfl rfl ?_
            refine wp_run 1 (pc' := 22) (ls' := [.ref 74, .int 2, .int x2, .int 3, .int x4, .int x5, am_du]) (st' := [.int 2, .ref 78]) rfl ?_
            refine wp_ald (i := 2) (h 78 2) rfl rfl rfl rfl (by decide) rfl ?_
            refine wp_if_f rfl (show ¬ ((h 78 2) = 0) from (fun q => cqz0 (hob.trans q))) ?_
            refine wp_run 1 (pc' := 27) (ls' := [.ref 74, .int 2, .int x2, .int 3, .int x4, .int x5, am_du]) (st' := [.ref 74]) rfl ?_
            refine wp_getr 78 rfl rfl rfl ?_
            refine wp_run 1 (pc' := 31) (ls' := [.ref 74, .int 2, .int x2, .int 3, .int x4, .int x5, am_du]) (st' := [.int 3, .ref 78]) rfl ?_
            refine wp_ald (i := 3) (h 78 3) rfl rfl rfl rfl (by decide) rfl ?_
            refine wp_if_t rfl (show ¬ (h 78 3) = 0 from (fun q => cqz1 (hobB.trans q))) ?_
            refine wp_run 1 (pc' := 39) (ls' := [.ref 74, .int 2, .int x2, .int 3, .int x4, .int x5, am_du]) (st' := [.ref 74]) rfl ?_
            refine wp_getr 78 rfl rfl rfl ?_
            refine wp_run 1 (pc' := 43) (ls' := [.ref 74, .int 2, .int x2, .int 3, .int x4, .int x5, am_du]) (st' := [.int 2, .ref 78]) rfl ?_
            refine wp_ald (i := 2) (h 78 2) rfl rfl rfl rfl (by decide) rfl ?_
            refine wp_run 1 (pc' := 45) (ls' := [.ref 74, .int 2, .int x2, .int 3, .int x4, .int x5, am_du]) (st' := [.ref 74, .int (h 78 2)]) rfl ?_
            refine wp_getr 78 rfl rfl rfl ?_
            refine wp_run 1 (pc' := 49) (ls' := [.ref 74, .int 2, .int x2, .int 3, .int x4, .int x5, am_du]) (st' := [.int 3, .ref 78, .int (h 78 2)]) rfl ?_
            refine wp_ald (i := 3) (h 78 3) rfl rfl rfl rfl (by decide) rfl ?_
            refine wp_icmp_f rfl (show ¬ ((h 78 2) = (h 78 3)) from (fun q => cqe (hob.trans (q.trans hobB.symm)))) ?_
            refine wp_run 1 (pc' := 55) (ls' := [.ref 74, .int 2, .int x2, .int 3, .int x4, .int x5, am_du]) (st' := [.int (-1000000005)]) rfl ?_
            refine wp_ret rfl ?_
            show am_wp L xs _ _ _ _ 11 [.ref 74, .int 2, .int x2, .int 3, .int x4, .int x5, am_du, am_du, am_du] [.int (-1000000005)] (am_S b) (am_u h 73 5 (h 73 5 + 1)) _
            refine wp_run 2 (pc' := 15) (ls' := [.ref 74, .int 2, .int x2, .int 3, .int x4, .int x5, .int (-1000000005), am_du, am_du]) (st' := [.int (-1000000005)]) rfl ?_
            refine wp_if_f rfl (show ¬ (((-1000000005) : Int32) = 0) from by decide) ?_
            refine wp_run 2 (pc' := 21) (ls' := [.ref 74, .int 2, .int x2, .int 3, .int x4, .int x5, .int (-1000000005), am_du, am_du]) (st' := [.int (-1000000005), .ref 74]) rfl ?_
            refine wp_callV (o := 74) (as := [.int (-1000000005)]) (rest := []) (els := [.ref 74, .int (-1000000005)]) rfl rfl rfl rfl rfl rfl rfl rfl (by omega) ?_
            refine sp_error5 ?_
            show am_wp L xs _ _ _ _ 24 [.ref 74, .int 2, .int x2, .int 3, .int x4, .int x5, .int (-1000000005), am_du, am_du] [.int (-1000000005)] (am_S b) (am_u (am_u h 73 5 (h 73 5 + 1)) 77 5 ((am_u h 73 5 (h 73 5 + 1)) 77 5 + 1)) _
            refine wp_ret rfl ?_
            exact kk2 _ _ (re_err5 hR)
        · skip
          replace cqz1 := Decidable.not_not.mp cqz1
          refine wp_run 2 (pc' := 12) (ls' := [.ref 71]) (st' := [.int 1]) rfl ?_
          refine wp_retz rfl (Or.inr rfl) ?_
          show am_wp L xs _ _ _ _ 49 [.ref 0, .int 2, .int x2, .int 3, .int x4, .int x5, .ref 69, .ref 71] [.int 1] (am_S b) h _
          refine wp_if_f rfl (show ¬ ((1 : Int32) = 0) from by decide) ?_
          refine wp_run 2 (pc' := 54) (ls' := [.ref 0, .int 2, .int x2, .int 3, .int x4, .int x5, .ref 69, .ref 71]) (st' := [.int 2, .ref 0]) rfl ?_
          refine wp_callV (o := 0) (as := [.int 2]) (rest := []) (els := [.ref 0, .int 2]) rfl rfl rfl rfl rfl rfl rfl rfl (by omega) ?_
          refine sp_refuse2 (by omega) ?_
          show am_wp L xs _ _ _ _ 57 [.ref 0, .int 2, .int x2, .int 3, .int x4, .int x5, .ref 69, .ref 71] [.int (-1000000002)] (am_S b) (am_u h 73 2 (h 73 2 + 1)) _
          refine wp_ret rfl ?_
          refine kk _ _ _ (fun ms2 Q2 kk2 => ?_)
          refine wp_run 6 (pc' := 8) (ls' := [.ref 74, .int 2, .int x2, .int 3, .int x4, .int x5, am_du, am_du, am_du]) (st' := [.int x5, .int x4, .int 3, .int x2, .int 2, .ref 74]) rfl ?_
          refine wp_callV (o := 74) (as := [.int 2, .int x2, .int 3, .int x4, .int x5]) (rest := []) (els := [.ref 74, .int 2, .int x2, .int 3, .int x4, .int x5, am_du]) rfl rfl rfl rfl rfl rfl rfl rfl (by omega) ?_
          refine wp_run 1 (pc' := 1) (ls' := [.ref 74, .int 2, .int x2, .int 3, .int x4, .int x5, am_du]) (st' := [.int 2]) rfl ?_
          refine wp_callS (as := [.int 2]) (rest := []) (els := [.int 2]) rfl rfl rfl rfl rfl rfl rfl rfl (by omega) ?_
          refine sp_m_isSheet (by omega) (fun _ _ _ => ?_) (fun q => absurd rfl (q 2 (by omega)))
          show am_wp L xs _ _ _ _ 4 [.ref 74, .int 2, .int x2, .int 3, .int x4, .int x5, am_du] [.int 1] (am_S b) (am_u h 73 2 (h 73 2 + 1)) _
          refine wp_if_f rfl (show ¬ ((1 : Int32) = 0) from by decide) ?_
          refine wp_run 1 (pc' := 8) (ls' := [.ref 74, .int 2, .int x2, .int 3, .int x4, .int x5, am_du]) (st' := [.int 3]) rfl ?_
          refine wp_callS (as := [.int 3]) (rest := []) (els := [.int 3]) rfl rfl rfl rfl rfl rfl rfl rfl (by omega) ?_
          refine sp_m_isSheet (by omega) (fun _ _ _ => ?_) (fun q => absurd rfl (q 3 (by omega)))
          show am_wp L xs _ _ _ _ 11 [.ref 74, .int 2, .int x2, .int 3, .int x4, .int x5, am_du] [.int 1] (am_S b) (am_u h 73 2 (h 73 2 + 1)) _
          refine wp_if_t rfl (show ¬ (1 : Int32) = 0 from by decide) ?_
          refine wp_run 1 (pc' := 18) (ls' := [.ref 74, .int 2, .int x2, .int 3, .int x4, .int x5, am_du]) (st' := [.ref 74]) rfl ?_
          refine wp_getr 78 rfl rfl rfl ?_
          refine wp_run 1 (pc' := 22) (ls' := [.ref 74, .int 2, .int x2, .int 3, .int x4, .int x5, am_du]) (st' := [.int 2, .ref 78]) rfl ?_
          refine wp_ald (i := 2) (h 78 2) rfl rfl rfl rfl (by decide) rfl ?_
          refine wp_if_f rfl (show ¬ ((h 78 2) = 0) from (fun q => cqz0 (hob.trans q))) ?_
          refine wp_run 1 (pc' := 27) (ls' := [.ref 74, .int 2, .int x2, .int 3, .int x4, .int x5, am_du]) (st' := [.ref 74]) rfl ?_
          refine wp_getr 78 rfl rfl rfl ?_
          refine wp_run 1 (pc' := 31) (ls' := [.ref 74, .int 2, .int x2, .int 3, .int x4, .int x5, am_du]) (st' := [.int 3, .ref 78]) rfl ?_
          refine wp_ald (i := 3) (h 78 3) rfl rfl rfl rfl (by decide) rfl ?_
          refine wp_if_f rfl (show ¬ (¬ (h 78 3) = 0) from (fun q => q (hobB.symm.trans cqz1))) ?_
          refine wp_run 1 (pc' := 37) (ls' := [.ref 74, .int 2, .int x2, .int 3, .int x4, .int x5, am_du]) (st' := [.int (-1000000002)]) rfl ?_
          refine wp_ret rfl ?_
          show am_wp L xs _ _ _ _ 11 [.ref 74, .int 2, .int x2, .int 3, .int x4, .int x5, am_du, am_du, am_du] [.int (-1000000002)] (am_S b) (am_u h 73 2 (h 73 2 + 1)) _
          refine wp_run 2 (pc' := 15) (ls' := [.ref 74, .int 2, .int x2, .int 3, .int x4, .int x5, .int (-1000000002), am_du, am_du]) (st' := [.int (-1000000002)]) rfl ?_
          refine wp_if_f rfl (show ¬ (((-1000000002) : Int32) = 0) from by decide) ?_
          refine wp_run 2 (pc' := 21) (ls' := [.ref 74, .int 2, .int x2, .int 3, .int x4, .int x5, .int (-1000000002), am_du, am_du]) (st' := [.int (-1000000002), .ref 74]) rfl ?_
          refine wp_callV (o := 74) (as := [.int (-1000000002)]) (rest := []) (els := [.ref 74, .int (-1000000002)]) rfl rfl rfl rfl rfl rfl rfl rfl (by omega) ?_
          refine sp_error2 ?_
          show am_wp L xs _ _ _ _ 24 [.ref 74, .int 2, .int x2, .int 3, .int x4, .int x5, .int (-1000000002), am_du, am_du] [.int (-1000000002)] (am_S b) (am_u (am_u h 73 2 (h 73 2 + 1)) 77 2 ((am_u h 73 2 (h 73 2 + 1)) 77 2 + 1)) _
          refine wp_ret rfl ?_
          exact kk2 _ _ (re_err2 hR)
      · skip
        replace cqz0 := Decidable.not_not.mp cqz0
        refine wp_run 2 (pc' := 12) (ls' := [.ref 69]) (st' := [.int 1]) rfl ?_
        refine wp_retz rfl (Or.inr rfl) ?_
        show am_wp L xs _ _ _ _ 41 [.ref 0, .int 2, .int x2, .int 3, .int x4, .int x5, .ref 69, .ref 71] [.int 1] (am_S b) h _
        refine wp_if_t rfl (show ¬ (1 : Int32) = 0 from by decide) ?_
        refine wp_run 2 (pc' := 54) (ls' := [.ref 0, .int 2, .int x2, .int 3, .int x4, .int x5, .ref 69, .ref 71]) (st' := [.int 2, .ref 0]) rfl ?_
        refine wp_callV (o := 0) (as := [.int 2]) (rest := []) (els := [.ref 0, .int 2]) rfl rfl rfl rfl rfl rfl rfl rfl (by omega) ?_
        refine sp_refuse2 (by omega) ?_
        show am_wp L xs _ _ _ _ 57 [.ref 0, .int 2, .int x2, .int 3, .int x4, .int x5, .ref 69, .ref 71] [.int (-1000000002)] (am_S b) (am_u h 73 2 (h 73 2 + 1)) _
        refine wp_ret rfl ?_
        refine kk _ _ _ (fun ms2 Q2 kk2 => ?_)
        refine wp_run 6 (pc' := 8) (ls' := [.ref 74, .int 2, .int x2, .int 3, .int x4, .int x5, am_du, am_du, am_du]) (st' := [.int x5, .int x4, .int 3, .int x2, .int 2, .ref 74]) rfl ?_
        refine wp_callV (o := 74) (as := [.int 2, .int x2, .int 3, .int x4, .int x5]) (rest := []) (els := [.ref 74, .int 2, .int x2, .int 3, .int x4, .int x5, am_du]) rfl rfl rfl rfl rfl rfl rfl rfl (by omega) ?_
        refine wp_run 1 (pc' := 1) (ls' := [.ref 74, .int 2, .int x2, .int 3, .int x4, .int x5, am_du]) (st' := [.int 2]) rfl ?_
        refine wp_callS (as := [.int 2]) (rest := []) (els := [.int 2]) rfl rfl rfl rfl rfl rfl rfl rfl (by omega) ?_
        refine sp_m_isSheet (by omega) (fun _ _ _ => ?_) (fun q => absurd rfl (q 2 (by omega)))
        show am_wp L xs _ _ _ _ 4 [.ref 74, .int 2, .int x2, .int 3, .int x4, .int x5, am_du] [.int 1] (am_S b) (am_u h 73 2 (h 73 2 + 1)) _
        refine wp_if_f rfl (show ¬ ((1 : Int32) = 0) from by decide) ?_
        refine wp_run 1 (pc' := 8) (ls' := [.ref 74, .int 2, .int x2, .int 3, .int x4, .int x5, am_du]) (st' := [.int 3]) rfl ?_
        refine wp_callS (as := [.int 3]) (rest := []) (els := [.int 3]) rfl rfl rfl rfl rfl rfl rfl rfl (by omega) ?_
        refine sp_m_isSheet (by omega) (fun _ _ _ => ?_) (fun q => absurd rfl (q 3 (by omega)))
        show am_wp L xs _ _ _ _ 11 [.ref 74, .int 2, .int x2, .int 3, .int x4, .int x5, am_du] [.int 1] (am_S b) (am_u h 73 2 (h 73 2 + 1)) _
        refine wp_if_t rfl (show ¬ (1 : Int32) = 0 from by decide) ?_
        refine wp_run 1 (pc' := 18) (ls' := [.ref 74, .int 2, .int x2, .int 3, .int x4, .int x5, am_du]) (st' := [.ref 74]) rfl ?_
        refine wp_getr 78 rfl rfl rfl ?_
        refine wp_run 1 (pc' := 22) (ls' := [.ref 74, .int 2, .int x2, .int 3, .int x4, .int x5, am_du]) (st' := [.int 2, .ref 78]) rfl ?_
        refine wp_ald (i := 2) (h 78 2) rfl rfl rfl rfl (by decide) rfl ?_
        refine wp_if_t rfl (show (h 78 2) = 0 from (hob.symm.trans cqz0)) ?_
        refine wp_run 1 (pc' := 37) (ls' := [.ref 74, .int 2, .int x2, .int 3, .int x4, .int x5, am_du]) (st' := [.int (-1000000002)]) rfl ?_
        refine wp_ret rfl ?_
        show am_wp L xs _ _ _ _ 11 [.ref 74, .int 2, .int x2, .int 3, .int x4, .int x5, am_du, am_du, am_du] [.int (-1000000002)] (am_S b) (am_u h 73 2 (h 73 2 + 1)) _
        refine wp_run 2 (pc' := 15) (ls' := [.ref 74, .int 2, .int x2, .int 3, .int x4, .int x5, .int (-1000000002), am_du, am_du]) (st' := [.int (-1000000002)]) rfl ?_
        refine wp_if_f rfl (show ¬ (((-1000000002) : Int32) = 0) from by decide) ?_
        refine wp_run 2 (pc' := 21) (ls' := [.ref 74, .int 2, .int x2, .int 3, .int x4, .int x5, .int (-1000000002), am_du, am_du]) (st' := [.int (-1000000002), .ref 74]) rfl ?_
        refine wp_callV (o := 74) (as := [.int (-1000000002)]) (rest := []) (els := [.ref 74, .int (-1000000002)]) rfl rfl rfl rfl rfl rfl rfl rfl (by omega) ?_
        refine sp_error2 ?_
        show am_wp L xs _ _ _ _ 24 [.ref 74, .int 2, .int x2, .int 3, .int x4, .int x5, .int (-1000000002), am_du, am_du] [.int (-1000000002)] (am_S b) (am_u (am_u h 73 2 (h 73 2 + 1)) 77 2 ((am_u h 73 2 (h 73 2 + 1)) 77 2 + 1)) _
        refine wp_ret rfl ?_
        exact kk2 _ _ (re_err2 hR)
    · skip
      intro hnx3
      show am_wp L xs _ _ _ _ 11 [.ref 0, .int 2, .int x2, .int x3, .int x4, .int x5, am_du, am_du] [.int 0] (am_S b) h _
      refine wp_if_f rfl (show ¬ (¬ (0 : Int32) = 0) from by decide) ?_
      refine wp_run 2 (pc' := 16) (ls' := [.ref 0, .int 2, .int x2, .int x3, .int x4, .int x5, am_du, am_du]) (st' := [.int 1, .ref 0]) rfl ?_
      refine wp_callV (o := 0) (as := [.int 1]) (rest := []) (els := [.ref 0, .int 1]) rfl rfl rfl rfl rfl rfl rfl rfl (by omega) ?_
      refine sp_refuse1 (by omega) ?_
      show am_wp L xs _ _ _ _ 19 [.ref 0, .int 2, .int x2, .int x3, .int x4, .int x5, am_du, am_du] [.int (-1000000001)] (am_S b) (am_u h 73 1 (h 73 1 + 1)) _
      refine wp_ret rfl ?_
      refine kk _ _ _ (fun ms2 Q2 kk2 => ?_)
      refine wp_run 6 (pc' := 8) (ls' := [.ref 74, .int 2, .int x2, .int x3, .int x4, .int x5, am_du, am_du, am_du]) (st' := [.int x5, .int x4, .int x3, .int x2, .int 2, .ref 74]) rfl ?_
      refine wp_callV (o := 74) (as := [.int 2, .int x2, .int x3, .int x4, .int x5]) (rest := []) (els := [.ref 74, .int 2, .int x2, .int x3, .int x4, .int x5, am_du]) rfl rfl rfl rfl rfl rfl rfl rfl (by omega) ?_
      refine wp_run 1 (pc' := 1) (ls' := [.ref 74, .int 2, .int x2, .int x3, .int x4, .int x5, am_du]) (st' := [.int 2]) rfl ?_
      refine wp_callS (as := [.int 2]) (rest := []) (els := [.int 2]) rfl rfl rfl rfl rfl rfl rfl rfl (by omega) ?_
      refine sp_m_isSheet (by omega) (fun _ _ _ => ?_) (fun q => absurd rfl (q 2 (by omega)))
      show am_wp L xs _ _ _ _ 4 [.ref 74, .int 2, .int x2, .int x3, .int x4, .int x5, am_du] [.int 1] (am_S b) (am_u h 73 1 (h 73 1 + 1)) _
      refine wp_if_f rfl (show ¬ ((1 : Int32) = 0) from by decide) ?_
      refine wp_run 1 (pc' := 8) (ls' := [.ref 74, .int 2, .int x2, .int x3, .int x4, .int x5, am_du]) (st' := [.int x3]) rfl ?_
      refine wp_callS (as := [.int x3]) (rest := []) (els := [.int x3]) rfl rfl rfl rfl rfl rfl rfl rfl (by omega) ?_
      refine sp_m_isSheet (by omega) (fun k hk e => absurd e (hnx3 k hk)) (fun _ => ?_)
      show am_wp L xs _ _ _ _ 11 [.ref 74, .int 2, .int x2, .int x3, .int x4, .int x5, am_du] [.int 0] (am_S b) (am_u h 73 1 (h 73 1 + 1)) _
      refine wp_if_f rfl (show ¬ (¬ (0 : Int32) = 0) from by decide) ?_
      refine wp_run 1 (pc' := 16) (ls' := [.ref 74, .int 2, .int x2, .int x3, .int x4, .int x5, am_du]) (st' := [.int (-1000000001)]) rfl ?_
      refine wp_ret rfl ?_
      show am_wp L xs _ _ _ _ 11 [.ref 74, .int 2, .int x2, .int x3, .int x4, .int x5, am_du, am_du, am_du] [.int (-1000000001)] (am_S b) (am_u h 73 1 (h 73 1 + 1)) _
      refine wp_run 2 (pc' := 15) (ls' := [.ref 74, .int 2, .int x2, .int x3, .int x4, .int x5, .int (-1000000001), am_du, am_du]) (st' := [.int (-1000000001)]) rfl ?_
      refine wp_if_f rfl (show ¬ (((-1000000001) : Int32) = 0) from by decide) ?_
      refine wp_run 2 (pc' := 21) (ls' := [.ref 74, .int 2, .int x2, .int x3, .int x4, .int x5, .int (-1000000001), am_du, am_du]) (st' := [.int (-1000000001), .ref 74]) rfl ?_
      refine wp_callV (o := 74) (as := [.int (-1000000001)]) (rest := []) (els := [.ref 74, .int (-1000000001)]) rfl rfl rfl rfl rfl rfl rfl rfl (by omega) ?_
      refine sp_error1 ?_
      show am_wp L xs _ _ _ _ 24 [.ref 74, .int 2, .int x2, .int x3, .int x4, .int x5, .int (-1000000001), am_du, am_du] [.int (-1000000001)] (am_S b) (am_u (am_u h 73 1 (h 73 1 + 1)) 77 1 ((am_u h 73 1 (h 73 1 + 1)) 77 1 + 1)) _
      refine wp_ret rfl ?_
      exact kk2 _ _ (re_err1 hR)
  · skip
    intro ex1
    subst ex1
    show am_wp L xs _ _ _ _ 4 [.ref 0, .int 3, .int x2, .int x3, .int x4, .int x5, am_du, am_du] [.int 1] (am_S b) h _
    refine wp_if_f rfl (show ¬ ((1 : Int32) = 0) from by decide) ?_
    refine wp_run 1 (pc' := 8) (ls' := [.ref 0, .int 3, .int x2, .int x3, .int x4, .int x5, am_du, am_du]) (st' := [.int x3]) rfl ?_
    refine wp_callS (as := [.int x3]) (rest := []) (els := [.int x3]) rfl rfl rfl rfl rfl rfl rfl rfl (by omega) ?_
    refine sp_x_isSheet (by omega) (pu_four ?_ ?_ ?_ ?_) ?_
    · skip
      intro ex3
      subst ex3
      show am_wp L xs _ _ _ _ 11 [.ref 0, .int 3, .int x2, .int 0, .int x4, .int x5, am_du, am_du] [.int 1] (am_S b) h _
      refine wp_if_t rfl (show ¬ (1 : Int32) = 0 from by decide) ?_
      obtain ⟨l, hl24, ho2, hz2, hob, hbb, hri⟩ := id hS3
      obtain ⟨lB, hl24B, ho2B, hz2B, hobB, hbbB, hriB⟩ := id hS0
      refine wp_run 1 (pc' := 21) (ls' := [.ref 0, .int 3, .int x2, .int 0, .int x4, .int x5, am_du, am_du]) (st' := [.ref 0]) rfl ?_
      refine wp_getr 64 rfl rfl rfl ?_
      refine wp_run 1 (pc' := 25) (ls' := [.ref 0, .int 3, .int x2, .int 0, .int x4, .int x5, am_du, am_du]) (st' := [.int 3, .ref 64]) rfl ?_
      refine wp_aald (r := 71) rfl rfl (Or.inr rfl) rfl (by decide) rfl rfl ?_
      refine wp_run 2 (pc' := 29) (ls' := [.ref 0, .int 3, .int x2, .int 0, .int x4, .int x5, .ref 71, am_du]) (st' := [.ref 0]) rfl ?_
      refine wp_getr 64 rfl rfl rfl ?_
      refine wp_run 1 (pc' := 33) (ls' := [.ref 0, .int 3, .int x2, .int 0, .int x4, .int x5, .ref 71, am_du]) (st' := [.int 0, .ref 64]) rfl ?_
      refine wp_aald (r := 65) rfl rfl (Or.inr rfl) rfl (by decide) rfl rfl ?_
      refine wp_run 2 (pc' := 38) (ls' := [.ref 0, .int 3, .int x2, .int 0, .int x4, .int x5, .ref 71, .ref 65]) (st' := [.ref 71]) rfl ?_
      refine wp_callV (o := 71) (as := []) (rest := []) (els := [.ref 71]) rfl rfl rfl rfl rfl rfl rfl rfl (by omega) ?_
      refine wp_run 1 (pc' := 1) (ls' := [.ref 71]) (st' := [.ref 71]) rfl ?_
      refine wp_geti (a := 1) (h 71 1) rfl rfl rfl rfl ?_
      refine wp_if rfl (fun (cqz0 : ¬ (h 71 1) = 0) => ?_) (fun (cqz0 : ¬ (¬ (h 71 1) = 0)) => ?_)
      · skip
        refine wp_run 1 (pc' := 12) (ls' := [.ref 71]) (st' := [.int 0]) rfl ?_
        refine wp_retz rfl (Or.inl rfl) ?_
        show am_wp L xs _ _ _ _ 41 [.ref 0, .int 3, .int x2, .int 0, .int x4, .int x5, .ref 71, .ref 65] [.int 0] (am_S b) h _
        refine wp_if_f rfl (show ¬ (¬ (0 : Int32) = 0) from by decide) ?_
        refine wp_run 1 (pc' := 46) (ls' := [.ref 0, .int 3, .int x2, .int 0, .int x4, .int x5, .ref 71, .ref 65]) (st' := [.ref 65]) rfl ?_
        refine wp_callV (o := 65) (as := []) (rest := []) (els := [.ref 65]) rfl rfl rfl rfl rfl rfl rfl rfl (by omega) ?_
        refine wp_run 1 (pc' := 1) (ls' := [.ref 65]) (st' := [.ref 65]) rfl ?_
        refine wp_geti (a := 1) (h 65 1) rfl rfl rfl rfl ?_
        refine wp_if rfl (fun (cqz1 : ¬ (h 65 1) = 0) => ?_) (fun (cqz1 : ¬ (¬ (h 65 1) = 0)) => ?_)
        · skip
          refine wp_run 1 (pc' := 12) (ls' := [.ref 65]) (st' := [.int 0]) rfl ?_
          refine wp_retz rfl (Or.inl rfl) ?_
          show am_wp L xs _ _ _ _ 49 [.ref 0, .int 3, .int x2, .int 0, .int x4, .int x5, .ref 71, .ref 65] [.int 0] (am_S b) h _
          refine wp_if_t rfl (show (0 : Int32) = 0 from by decide) ?_
          refine wp_run 1 (pc' := 60) (ls' := [.ref 0, .int 3, .int x2, .int 0, .int x4, .int x5, .ref 71, .ref 65]) (st' := [.ref 71]) rfl ?_
          refine wp_geti (a := 1) (h 71 1) rfl rfl rfl rfl ?_
          refine wp_run 1 (pc' := 65) (ls' := [.ref 0, .int 3, .int x2, .int 0, .int x4, .int x5, .ref 71, .ref 65]) (st' := [.ref 65, .int (h 71 1)]) rfl ?_
          refine wp_geti (a := 1) (h 65 1) rfl rfl rfl rfl ?_
          refine wp_icmp rfl (fun (cqe : (h 71 1) = (h 65 1)) => ?_) (fun (cqe : ¬ ((h 71 1) = (h 65 1))) => ?_)
          · skip
            refine wp_run 3 (pc' := 82) (ls' := [.ref 0, .int 3, .int x2, .int 0, .int x4, .int x5, .ref 71, .ref 65]) (st' := [.int x5, .int x2, .ref 71]) rfl ?_
            refine wp_callV (o := 71) (as := [.int x2, .int x5]) (rest := []) (els := [.ref 71, .int x2, .int x5]) rfl rfl rfl rfl rfl rfl rfl rfl (by omega) ?_
            refine sp_holds (h := h) (o := 71) (l := l) rfl ho2 hl24 (by omega) ?_ ?_
            · skip
              intro k2 k5 e5 e2 hle1
              subst e5
              subst e2
              show am_wp L xs _ _ _ _ 85 [.ref 0, .int 3, .int (nI k2), .int 0, .int x4, .int (nI k5), .ref 71, .ref 65] [.int 1] (am_S b) h _
              refine wp_if_f rfl (show ¬ ((1 : Int32) = 0) from by decide) ?_
              refine wp_run 3 (pc' := 94) (ls' := [.ref 0, .int 3, .int (nI k2), .int 0, .int x4, .int (nI k5), .ref 71, .ref 65]) (st' := [.int (nI k5), .int x4, .ref 65]) rfl ?_
              refine wp_callV (o := 65) (as := [.int x4, .int (nI k5)]) (rest := []) (els := [.ref 65, .int x4, .int (nI k5)]) rfl rfl rfl rfl rfl rfl rfl rfl (by omega) ?_
              refine sp_holds (h := h) (o := 65) (l := lB) rfl ho2B hl24B (by omega) ?_ ?_
              · skip
                intro k4 n4 q1 e4 hle2
                have en := pu_inj (by omega) (by omega) q1
                subst en
                subst e4
                show am_wp L xs _ _ _ _ 97 [.ref 0, .int 3, .int (nI k2), .int 0, .int (nI k4), .int (nI k5), .ref 71, .ref 65] [.int 1] (am_S b) h _
                refine wp_if_t rfl (show ¬ (1 : Int32) = 0 from by decide) ?_
                refine wp_run 1 (pc' := 108) (ls' := [.ref 0, .int 3, .int (nI k2), .int 0, .int (nI k4), .int (nI k5), .ref 71, .ref 65]) (st' := [.ref 71]) rfl ?_
                refine wp_getr 72 rfl rfl rfl ?_
                refine wp_run 2 (pc' := 114) (ls' := [.ref 0, .int 3, .int (nI k2), .int 0, .int (nI k4), .int (nI k5), .ref 71, .ref 65]) (st' := [.ref 65, .int (nI k2), .ref 72]) rfl ?_
                refine wp_getr 66 rfl rfl rfl ?_
                refine wp_run 2 (pc' := 121) (ls' := [.ref 0, .int 3, .int (nI k2), .int 0, .int (nI k4), .int (nI k5), .ref 71, .ref 65]) (st' := [.int (nI k5), .int (nI k4), .ref 66, .int (nI k2), .ref 72]) rfl ?_
                refine wp_copy (q := 72) (o := 66) (sp := k2) (dp := k4) (n := k5) rfl rfl rfl rfl rfl rfl (by omega) (by omega) (by omega) (by omega) rfl (by omega) ?_
                refine wp_run 1 (pc' := 126) (ls' := [.ref 0, .int 3, .int (nI k2), .int 0, .int (nI k4), .int (nI k5), .ref 71, .ref 65]) (st' := [.int (nI k5)]) rfl ?_
                refine wp_ret rfl ?_
                refine kk _ _ _ (fun ms2 Q2 kk2 => ?_)
                refine wp_run 6 (pc' := 8) (ls' := [.ref 74, .int 3, .int (nI k2), .int 0, .int (nI k4), .int (nI k5), am_du, am_du, am_du]) (st' := [.int (nI k5), .int (nI k4), .int 0, .int (nI k2), .int 3, .ref 74]) rfl ?_
                refine wp_callV (o := 74) (as := [.int 3, .int (nI k2), .int 0, .int (nI k4), .int (nI k5)]) (rest := []) (els := [.ref 74, .int 3, .int (nI k2), .int 0, .int (nI k4), .int (nI k5), am_du]) rfl rfl rfl rfl rfl rfl rfl rfl (by omega) ?_
                refine wp_run 1 (pc' := 1) (ls' := [.ref 74, .int 3, .int (nI k2), .int 0, .int (nI k4), .int (nI k5), am_du]) (st' := [.int 3]) rfl ?_
                refine wp_callS (as := [.int 3]) (rest := []) (els := [.int 3]) rfl rfl rfl rfl rfl rfl rfl rfl (by omega) ?_
                refine sp_m_isSheet (by omega) (fun _ _ _ => ?_) (fun q => absurd rfl (q 3 (by omega)))
                show am_wp L xs _ _ _ _ 4 [.ref 74, .int 3, .int (nI k2), .int 0, .int (nI k4), .int (nI k5), am_du] [.int 1] (am_S b) (am_ur h 66 (va_cpy (h 72) (h 66) k2 k4 k5)) _
                refine wp_if_f rfl (show ¬ ((1 : Int32) = 0) from by decide) ?_
                refine wp_run 1 (pc' := 8) (ls' := [.ref 74, .int 3, .int (nI k2), .int 0, .int (nI k4), .int (nI k5), am_du]) (st' := [.int 0]) rfl ?_
                refine wp_callS (as := [.int 0]) (rest := []) (els := [.int 0]) rfl rfl rfl rfl rfl rfl rfl rfl (by omega) ?_
                refine sp_m_isSheet (by omega) (fun _ _ _ => ?_) (fun q => absurd rfl (q 0 (by omega)))
                show am_wp L xs _ _ _ _ 11 [.ref 74, .int 3, .int (nI k2), .int 0, .int (nI k4), .int (nI k5), am_du] [.int 1] (am_S b) (am_ur h 66 (va_cpy (h 72) (h 66) k2 k4 k5)) _
                refine wp_if_t rfl (show ¬ (1 : Int32) = 0 from by decide) ?_
                refine wp_run 1 (pc' := 18) (ls' := [.ref 74, .int 3, .int (nI k2), .int 0, .int (nI k4), .int (nI k5), am_du]) (st' := [.ref 74]) rfl ?_
                refine wp_getr 78 rfl rfl rfl ?_
                refine wp_run 1 (pc' := 22) (ls' := [.ref 74, .int 3, .int (nI k2), .int 0, .int (nI k4), .int (nI k5), am_du]) (st' := [.int 3, .ref 78]) rfl ?_
                refine wp_ald (i := 3) (h 78 3) rfl rfl rfl rfl (by decide) rfl ?_
                refine wp_if_f rfl (show ¬ ((h 78 3) = 0) from (fun q => cqz0 (hob.trans q))) ?_
                refine wp_run 1 (pc' := 27) (ls' := [.ref 74, .int 3, .int (nI k2), .int 0, .int (nI k4), .int (nI k5), am_du]) (st' := [.ref 74]) rfl ?_
                refine wp_getr 78 rfl rfl rfl ?_
                refine wp_run 1 (pc' := 31) (ls' := [.ref 74, .int 3, .int (nI k2), .int 0, .int (nI k4), .int (nI k5), am_du]) (st' := [.int 0, .ref 78]) rfl ?_
                refine wp_ald (i := 0) (h 78 0) rfl rfl rfl rfl (by decide) rfl ?_
                refine wp_if_t rfl (show ¬ (h 78 0) = 0 from (fun q => cqz1 (hobB.trans q))) ?_
                refine wp_run 1 (pc' := 39) (ls' := [.ref 74, .int 3, .int (nI k2), .int 0, .int (nI k4), .int (nI k5), am_du]) (st' := [.ref 74]) rfl ?_
                refine wp_getr 78 rfl rfl rfl ?_
                refine wp_run 1 (pc' := 43) (ls' := [.ref 74, .int 3, .int (nI k2), .int 0, .int (nI k4), .int (nI k5), am_du]) (st' := [.int 3, .ref 78]) rfl ?_
                refine wp_ald (i := 3) (h 78 3) rfl rfl rfl rfl (by decide) rfl ?_
                refine wp_run 1 (pc' := 45) (ls' := [.ref 74, .int 3, .int (nI k2), .int 0, .int (nI k4), .int (nI k5), am_du]) (st' := [.ref 74, .int (h 78 3)]) rfl ?_
                refine wp_getr 78 rfl rfl rfl ?_
                refine wp_run 1 (pc' := 49) (ls' := [.ref 74, .int 3, .int (nI k2), .int 0, .int (nI k4), .int (nI k5), am_du]) (st' := [.int 0, .ref 78, .int (h 78 3)]) rfl ?_
                refine wp_ald (i := 0) (h 78 0) rfl rfl rfl rfl (by decide) rfl ?_
                refine wp_icmp_t rfl (show (h 78 3) = (h 78 0) from (hob.symm.trans (cqe.trans hobB))) ?_
                refine wp_run 1 (pc' := 58) (ls' := [.ref 74, .int 3, .int (nI k2), .int 0, .int (nI k4), .int (nI k5), am_du]) (st' := [.int (nI k5)]) rfl ?_
                refine wp_if_f rfl (show ¬ ((nI k5) < 0) from mt (nI_ltI (a := k5) (b := 0) (by omega) (by omega)).mp (by omega)) ?_
                refine wp_run 1 (pc' := 62) (ls' := [.ref 74, .int 3, .int (nI k2), .int 0, .int (nI k4), .int (nI k5), am_du]) (st' := [.int (nI k2)]) rfl ?_
                refine wp_if_f rfl (show ¬ ((nI k2) < 0) from mt (nI_ltI (a := k2) (b := 0) (by omega) (by omega)).mp (by omega)) ?_
                refine wp_run 1 (pc' := 67) (ls' := [.ref 74, .int 3, .int (nI k2), .int 0, .int (nI k4), .int (nI k5), am_du]) (st' := [.int (nI k4)]) rfl ?_
                refine wp_if_f rfl (show ¬ ((nI k4) < 0) from mt (nI_ltI (a := k4) (b := 0) (by omega) (by omega)).mp (by omega)) ?_
                refine wp_run 2 (pc' := 73) (ls' := [.ref 74, .int 3, .int (nI k2), .int 0, .int (nI k4), .int (nI k5), am_du]) (st' := [.ref 74, .int (nI k5)]) rfl ?_
                refine wp_getr 79 rfl rfl rfl ?_
                refine wp_run 1 (pc' := 77) (ls' := [.ref 74, .int 3, .int (nI k2), .int 0, .int (nI k4), .int (nI k5), am_du]) (st' := [.int 3, .ref 79, .int (nI k5)]) rfl ?_
                refine wp_ald (i := 3) (nI l) hz2 rfl rfl rfl (by decide) rfl ?_
                refine wp_run 2 (pc' := 80) (ls' := [.ref 74, .int 3, .int (nI k2), .int 0, .int (nI k4), .int (nI k5), am_du]) (st' := [.int ((nI l) - (nI k2)), .int (nI k5)]) rfl ?_
                refine wp_icmp_f rfl (show ¬ (((nI l) - (nI k2)) < (nI k5)) from Int32.not_lt.mpr ((pu_suble (by omega) (by omega) hl24).mpr (by omega))) ?_
                refine wp_run 2 (pc' := 86) (ls' := [.ref 74, .int 3, .int (nI k2), .int 0, .int (nI k4), .int (nI k5), am_du]) (st' := [.ref 74, .int (nI k5)]) rfl ?_
                refine wp_getr 79 rfl rfl rfl ?_
                refine wp_run 1 (pc' := 90) (ls' := [.ref 74, .int 3, .int (nI k2), .int 0, .int (nI k4), .int (nI k5), am_du]) (st' := [.int 0, .ref 79, .int (nI k5)]) rfl ?_
                refine wp_ald (i := 0) (nI lB) hz2B rfl rfl rfl (by decide) rfl ?_
                refine wp_run 2 (pc' := 94) (ls' := [.ref 74, .int 3, .int (nI k2), .int 0, .int (nI k4), .int (nI k5), am_du]) (st' := [.int ((nI lB) - (nI k4)), .int (nI k5)]) rfl ?_
                refine wp_icmp_f rfl (show ¬ (((nI lB) - (nI k4)) < (nI k5)) from Int32.not_lt.mpr ((pu_suble (by omega) (by omega) hl24B).mpr (by omega))) ?_
                refine wp_run 4 (pc' := 106) (ls' := [.ref 74, .int 3, .int (nI k2), .int 0, .int (nI k4), .int (nI k5), .int 1]) (st' := [.int 1]) rfl ?_
                refine wp_if_f rfl (show ¬ ((1 : Int32) = 0) from by decide) ?_
                refine wp_run 2 (pc' := 115) (ls' := [.ref 74, .int 3, .int (nI k2), .int 0, .int (nI k4), .int (nI k5), .int 1]) (st' := [.int 0]) rfl ?_
                refine wp_ret rfl ?_
                show am_wp L xs _ _ _ _ 11 [.ref 74, .int 3, .int (nI k2), .int 0, .int (nI k4), .int (nI k5), am_du, am_du, am_du] [.int 0] (am_S b) (am_ur h 66 (va_cpy (h 72) (h 66) k2 k4 k5)) _
                refine wp_run 2 (pc' := 15) (ls' := [.ref 74, .int 3, .int (nI k2), .int 0, .int (nI k4), .int (nI k5), .int 0, am_du, am_du]) (st' := [.int 0]) rfl ?_
                refine wp_if_t rfl (show (0 : Int32) = 0 from by decide) ?_
                refine wp_run 2 (pc' := 28) (ls' := [.ref 74, .int 3, .int (nI k2), .int 0, .int (nI k4), .int (nI k5), .int 0, .int 0, am_du]) (st' := []) rfl ?_
                by_cases hij : k2 < k4
                · have hp := lp_mvd (L := L) (xs := xs) (d := d) (ms := ms2) (b := b) (h := (am_ur h 66 (va_cpy (h 72) (h 66) k2 k4 k5))) (Q := Q2) (s := 3) (o := 0) (i := k2) (j := k4) (n := k5) (by omega) (by omega) (by omega) (by omega) hij (by omega) ?_ k5 0 am_du (by omega)
                  · rw [mv_d0] at hp; exact hp
                  · exact kk2 _ _ ⟨⟨n, c, t, tp, wt, s0, s1, p0, p1, H⟩, re_im_s hI, hE, (re_sh_m hS3 hS0 (by omega) (by omega)), (re_sh_mo hS1 (by decide) (by omega)), (re_sh_mo hS2 (by decide) (by omega)), (re_sh_mo hS3 (by decide) (by omega)), hT⟩
                · have hp := lp_mva (L := L) (xs := xs) (d := d) (ms := ms2) (b := b) (h := (am_ur h 66 (va_cpy (h 72) (h 66) k2 k4 k5))) (Q := Q2) (s := 3) (o := 0) (i := k2) (j := k4) (n := k5) (by omega) (by omega) (by omega) (by omega) hij (by omega) ?_ k5 0 am_du (by omega)
                  · rw [mv_a0] at hp; exact hp
                  · exact kk2 _ _ ⟨⟨n, c, t, tp, wt, s0, s1, p0, p1, H⟩, re_im_s hI, hE, (re_sh_m hS3 hS0 (by omega) (by omega)), (re_sh_mo hS1 (by decide) (by omega)), (re_sh_mo hS2 (by decide) (by omega)), (re_sh_mo hS3 (by decide) (by omega)), hT⟩
              · skip
                intro hno2
                show am_wp L xs _ _ _ _ 97 [.ref 0, .int 3, .int (nI k2), .int 0, .int x4, .int (nI k5), .ref 71, .ref 65] [.int 0] (am_S b) h _
                refine wp_if_f rfl (show ¬ (¬ (0 : Int32) = 0) from by decide) ?_
                refine wp_run 2 (pc' := 102) (ls' := [.ref 0, .int 3, .int (nI k2), .int 0, .int x4, .int (nI k5), .ref 71, .ref 65]) (st' := [.int 1, .ref 0]) rfl ?_
                refine wp_callV (o := 0) (as := [.int 1]) (rest := []) (els := [.ref 0, .int 1]) rfl rfl rfl rfl rfl rfl rfl rfl (by omega) ?_
                refine sp_refuse1 (by omega) ?_
                show am_wp L xs _ _ _ _ 105 [.ref 0, .int 3, .int (nI k2), .int 0, .int x4, .int (nI k5), .ref 71, .ref 65] [.int (-1000000001)] (am_S b) (am_u h 73 1 (h 73 1 + 1)) _
                refine wp_ret rfl ?_
                refine kk _ _ _ (fun ms2 Q2 kk2 => ?_)
                refine wp_run 6 (pc' := 8) (ls' := [.ref 74, .int 3, .int (nI k2), .int 0, .int x4, .int (nI k5), am_du, am_du, am_du]) (st' := [.int (nI k5), .int x4, .int 0, .int (nI k2), .int 3, .ref 74]) rfl ?_
                refine wp_callV (o := 74) (as := [.int 3, .int (nI k2), .int 0, .int x4, .int (nI k5)]) (rest := []) (els := [.ref 74, .int 3, .int (nI k2), .int 0, .int x4, .int (nI k5), am_du]) rfl rfl rfl rfl rfl rfl rfl rfl (by omega) ?_
                refine wp_run 1 (pc' := 1) (ls' := [.ref 74, .int 3, .int (nI k2), .int 0, .int x4, .int (nI k5), am_du]) (st' := [.int 3]) rfl ?_
                refine wp_callS (as := [.int 3]) (rest := []) (els := [.int 3]) rfl rfl rfl rfl rfl rfl rfl rfl (by omega) ?_
                refine sp_m_isSheet (by omega) (fun _ _ _ => ?_) (fun q => absurd rfl (q 3 (by omega)))
                show am_wp L xs _ _ _ _ 4 [.ref 74, .int 3, .int (nI k2), .int 0, .int x4, .int (nI k5), am_du] [.int 1] (am_S b) (am_u h 73 1 (h 73 1 + 1)) _
                refine wp_if_f rfl (show ¬ ((1 : Int32) = 0) from by decide) ?_
                refine wp_run 1 (pc' := 8) (ls' := [.ref 74, .int 3, .int (nI k2), .int 0, .int x4, .int (nI k5), am_du]) (st' := [.int 0]) rfl ?_
                refine wp_callS (as := [.int 0]) (rest := []) (els := [.int 0]) rfl rfl rfl rfl rfl rfl rfl rfl (by omega) ?_
                refine sp_m_isSheet (by omega) (fun _ _ _ => ?_) (fun q => absurd rfl (q 0 (by omega)))
                show am_wp L xs _ _ _ _ 11 [.ref 74, .int 3, .int (nI k2), .int 0, .int x4, .int (nI k5), am_du] [.int 1] (am_S b) (am_u h 73 1 (h 73 1 + 1)) _
                refine wp_if_t rfl (show ¬ (1 : Int32) = 0 from by decide) ?_
                refine wp_run 1 (pc' := 18) (ls' := [.ref 74, .int 3, .int (nI k2), .int 0, .int x4, .int (nI k5), am_du]) (st' := [.ref 74]) rfl ?_
                refine wp_getr 78 rfl rfl rfl ?_
                refine wp_run 1 (pc' := 22) (ls' := [.ref 74, .int 3, .int (nI k2), .int 0, .int x4, .int (nI k5), am_du]) (st' := [.int 3, .ref 78]) rfl ?_
                refine wp_ald (i := 3) (h 78 3) rfl rfl rfl rfl (by decide) rfl ?_
                refine wp_if_f rfl (show ¬ ((h 78 3) = 0) from (fun q => cqz0 (hob.trans q))) ?_
                refine wp_run 1 (pc' := 27) (ls' := [.ref 74, .int 3, .int (nI k2), .int 0, .int x4, .int (nI k5), am_du]) (st' := [.ref 74]) rfl ?_
                refine wp_getr 78 rfl rfl rfl ?_
                refine wp_run 1 (pc' := 31) (ls' := [.ref 74, .int 3, .int (nI k2), .int 0, .int x4, .int (nI k5), am_du]) (st' := [.int 0, .ref 78]) rfl ?_
                refine wp_ald (i := 0) (h 78 0) rfl rfl rfl rfl (by decide) rfl ?_
                refine wp_if_t rfl (show ¬ (h 78 0) = 0 from (fun q => cqz1 (hobB.trans q))) ?_
                refine wp_run 1 (pc' := 39) (ls' := [.ref 74, .int 3, .int (nI k2), .int 0, .int x4, .int (nI k5), am_du]) (st' := [.ref 74]) rfl ?_
                refine wp_getr 78 rfl rfl rfl ?_
                refine wp_run 1 (pc' := 43) (ls' := [.ref 74, .int 3, .int (nI k2), .int 0, .int x4, .int (nI k5), am_du]) (st' := [.int 3, .ref 78]) rfl ?_
                refine wp_ald (i := 3) (h 78 3) rfl rfl rfl rfl (by decide) rfl ?_
                refine wp_run 1 (pc' := 45) (ls' := [.ref 74, .int 3, .int (nI k2), .int 0, .int x4, .int (nI k5), am_du]) (st' := [.ref 74, .int (h 78 3)]) rfl ?_
                refine wp_getr 78 rfl rfl rfl ?_
                refine wp_run 1 (pc' := 49) (ls' := [.ref 74, .int 3, .int (nI k2), .int 0, .int x4, .int (nI k5), am_du]) (st' := [.int 0, .ref 78, .int (h 78 3)]) rfl ?_
                refine wp_ald (i := 0) (h 78 0) rfl rfl rfl rfl (by decide) rfl ?_
                refine wp_icmp_t rfl (show (h 78 3) = (h 78 0) from (hob.symm.trans (cqe.trans hobB))) ?_
                refine wp_run 1 (pc' := 58) (ls' := [.ref 74, .int 3, .int (nI k2), .int 0, .int x4, .int (nI k5), am_du]) (st' := [.int (nI k5)]) rfl ?_
                refine wp_if_f rfl (show ¬ ((nI k5) < 0) from mt (nI_ltI (a := k5) (b := 0) (by omega) (by omega)).mp (by omega)) ?_
                refine wp_run 1 (pc' := 62) (ls' := [.ref 74, .int 3, .int (nI k2), .int 0, .int x4, .int (nI k5), am_du]) (st' := [.int (nI k2)]) rfl ?_
                refine wp_if_f rfl (show ¬ ((nI k2) < 0) from mt (nI_ltI (a := k2) (b := 0) (by omega) (by omega)).mp (by omega)) ?_
                refine wp_run 1 (pc' := 67) (ls' := [.ref 74, .int 3, .int (nI k2), .int 0, .int x4, .int (nI k5), am_du]) (st' := [.int x4]) rfl ?_
                refine wp_if rfl (fun (cq67 : x4 < 0) => ?_) (fun (cq67 : ¬ (x4 < 0)) => ?_)
                · skip
                  refine wp_run 3 (pc' := 106) (ls' := [.ref 74, .int 3, .int (nI k2), .int 0, .int x4, .int (nI k5), .int 0]) (st' := [.int 0]) rfl ?_
                  refine wp_if_t rfl (show (0 : Int32) = 0 from by decide) ?_
                  refine wp_run 1 (pc' := 115) (ls' := [.ref 74, .int 3, .int (nI k2), .int 0, .int x4, .int (nI k5), .int 0]) (st' := [.int (-1000000001)]) rfl ?_
                  refine wp_ret rfl ?_
                  show am_wp L xs _ _ _ _ 11 [.ref 74, .int 3, .int (nI k2), .int 0, .int x4, .int (nI k5), am_du, am_du, am_du] [.int (-1000000001)] (am_S b) (am_u h 73 1 (h 73 1 + 1)) _
                  refine wp_run 2 (pc' := 15) (ls' := [.ref 74, .int 3, .int (nI k2), .int 0, .int x4, .int (nI k5), .int (-1000000001), am_du, am_du]) (st' := [.int (-1000000001)]) rfl ?_
                  refine wp_if_f rfl (show ¬ (((-1000000001) : Int32) = 0) from by decide) ?_
                  refine wp_run 2 (pc' := 21) (ls' := [.ref 74, .int 3, .int (nI k2), .int 0, .int x4, .int (nI k5), .int (-1000000001), am_du, am_du]) (st' := [.int (-1000000001), .ref 74]) rfl ?_
                  refine wp_callV (o := 74) (as := [.int (-1000000001)]) (rest := []) (els := [.ref 74, .int (-1000000001)]) rfl rfl rfl rfl rfl rfl rfl rfl (by omega) ?_
                  refine sp_error1 ?_
                  show am_wp L xs _ _ _ _ 24 [.ref 74, .int 3, .int (nI k2), .int 0, .int x4, .int (nI k5), .int (-1000000001), am_du, am_du] [.int (-1000000001)] (am_S b) (am_u (am_u h 73 1 (h 73 1 + 1)) 77 1 ((am_u h 73 1 (h 73 1 + 1)) 77 1 + 1)) _
                  refine wp_ret rfl ?_
                  exact kk2 _ _ (re_err1 hR)
                · skip
                  obtain ⟨k4, hk4, ek4⟩ := pu_nonneg (Int32.not_lt.mp cq67)
                  subst ek4
                  refine wp_run 2 (pc' := 73) (ls' := [.ref 74, .int 3, .int (nI k2), .int 0, .int (nI k4), .int (nI k5), am_du]) (st' := [.ref 74, .int (nI k5)]) rfl ?_
                  refine wp_getr 79 rfl rfl rfl ?_
                  refine wp_run 1 (pc' := 77) (ls' := [.ref 74, .int 3, .int (nI k2), .int 0, .int (nI k4), .int (nI k5), am_du]) (st' := [.int 3, .ref 79, .int (nI k5)]) rfl ?_
                  refine wp_ald (i := 3) (nI l) hz2 rfl rfl rfl (by decide) rfl ?_
                  refine wp_run 2 (pc' := 80) (ls' := [.ref 74, .int 3, .int (nI k2), .int 0, .int (nI k4), .int (nI k5), am_du]) (st' := [.int ((nI l) - (nI k2)), .int (nI k5)]) rfl ?_
                  refine wp_icmp_f rfl (show ¬ (((nI l) - (nI k2)) < (nI k5)) from Int32.not_lt.mpr ((pu_suble (by omega) (by omega) hl24).mpr (by omega))) ?_
                  refine wp_run 2 (pc' := 86) (ls' := [.ref 74, .int 3, .int (nI k2), .int 0, .int (nI k4), .int (nI k5), am_du]) (st' := [.ref 74, .int (nI k5)]) rfl ?_
                  refine wp_getr 79 rfl rfl rfl ?_
                  refine wp_run 1 (pc' := 90) (ls' := [.ref 74, .int 3, .int (nI k2), .int 0, .int (nI k4), .int (nI k5), am_du]) (st' := [.int 0, .ref 79, .int (nI k5)]) rfl ?_
                  refine wp_ald (i := 0) (nI lB) hz2B rfl rfl rfl (by decide) rfl ?_
                  refine wp_run 2 (pc' := 94) (ls' := [.ref 74, .int 3, .int (nI k2), .int 0, .int (nI k4), .int (nI k5), am_du]) (st' := [.int ((nI lB) - (nI k4)), .int (nI k5)]) rfl ?_
                  refine wp_icmp_t rfl (show ((nI lB) - (nI k4)) < (nI k5) from Int32.not_le.mp (fun q => hno2 k4 k5 rfl rfl (by have := (pu_suble (by omega) (by omega) hl24B).mp q; omega))) ?_
                  refine wp_run 3 (pc' := 106) (ls' := [.ref 74, .int 3, .int (nI k2), .int 0, .int (nI k4), .int (nI k5), .int 0]) (st' := [.int 0]) rfl ?_
                  refine wp_if_t rfl (show (0 : Int32) = 0 from by decide) ?_
                  refine wp_run 1 (pc' := 115) (ls' := [.ref 74, .int 3, .int (nI k2), .int 0, .int (nI k4), .int (nI k5), .int 0]) (st' := [.int (-1000000001)]) rfl ?_
                  refine wp_ret rfl ?_
                  show am_wp L xs _ _ _ _ 11 [.ref 74, .int 3, .int (nI k2), .int 0, .int (nI k4), .int (nI k5), am_du, am_du, am_du] [.int (-1000000001)] (am_S b) (am_u h 73 1 (h 73 1 + 1)) _
                  refine wp_run 2 (pc' := 15) (ls' := [.ref 74, .int 3, .int (nI k2), .int 0, .int (nI k4), .int (nI k5), .int (-1000000001), am_du, am_du]) (st' := [.int (-1000000001)]) rfl ?_
                  refine wp_if_f rfl (show ¬ (((-1000000001) : Int32) = 0) from by decide) ?_
                  refine wp_run 2 (pc' := 21) (ls' := [.ref 74, .int 3, .int (nI k2), .int 0, .int (nI k4), .int (nI k5), .int (-1000000001), am_du, am_du]) (st' := [.int (-1000000001), .ref 74]) rfl ?_
                  refine wp_callV (o := 74) (as := [.int (-1000000001)]) (rest := []) (els := [.ref 74, .int (-1000000001)]) rfl rfl rfl rfl rfl rfl rfl rfl (by omega) ?_
                  refine sp_error1 ?_
                  show am_wp L xs _ _ _ _ 24 [.ref 74, .int 3, .int (nI k2), .int 0, .int (nI k4), .int (nI k5), .int (-1000000001), am_du, am_du] [.int (-1000000001)] (am_S b) (am_u (am_u h 73 1 (h 73 1 + 1)) 77 1 ((am_u h 73 1 (h 73 1 + 1)) 77 1 + 1)) _
                  refine wp_ret rfl ?_
                  exact kk2 _ _ (re_err1 hR)
            · skip
              intro hno1
              show am_wp L xs _ _ _ _ 85 [.ref 0, .int 3, .int x2, .int 0, .int x4, .int x5, .ref 71, .ref 65] [.int 0] (am_S b) h _
              refine wp_if_t rfl (show (0 : Int32) = 0 from by decide) ?_
              refine wp_run 2 (pc' := 102) (ls' := [.ref 0, .int 3, .int x2, .int 0, .int x4, .int x5, .ref 71, .ref 65]) (st' := [.int 1, .ref 0]) rfl ?_
              refine wp_callV (o := 0) (as := [.int 1]) (rest := []) (els := [.ref 0, .int 1]) rfl rfl rfl rfl rfl rfl rfl rfl (by omega) ?_
              refine sp_refuse1 (by omega) ?_
              show am_wp L xs _ _ _ _ 105 [.ref 0, .int 3, .int x2, .int 0, .int x4, .int x5, .ref 71, .ref 65] [.int (-1000000001)] (am_S b) (am_u h 73 1 (h 73 1 + 1)) _
              refine wp_ret rfl ?_
              refine kk _ _ _ (fun ms2 Q2 kk2 => ?_)
              refine wp_run 6 (pc' := 8) (ls' := [.ref 74, .int 3, .int x2, .int 0, .int x4, .int x5, am_du, am_du, am_du]) (st' := [.int x5, .int x4, .int 0, .int x2, .int 3, .ref 74]) rfl ?_
              refine wp_callV (o := 74) (as := [.int 3, .int x2, .int 0, .int x4, .int x5]) (rest := []) (els := [.ref 74, .int 3, .int x2, .int 0, .int x4, .int x5, am_du]) rfl rfl rfl rfl rfl rfl rfl rfl (by omega) ?_
              refine wp_run 1 (pc' := 1) (ls' := [.ref 74, .int 3, .int x2, .int 0, .int x4, .int x5, am_du]) (st' := [.int 3]) rfl ?_
              refine wp_callS (as := [.int 3]) (rest := []) (els := [.int 3]) rfl rfl rfl rfl rfl rfl rfl rfl (by omega) ?_
              refine sp_m_isSheet (by omega) (fun _ _ _ => ?_) (fun q => absurd rfl (q 3 (by omega)))
              show am_wp L xs _ _ _ _ 4 [.ref 74, .int 3, .int x2, .int 0, .int x4, .int x5, am_du] [.int 1] (am_S b) (am_u h 73 1 (h 73 1 + 1)) _
              refine wp_if_f rfl (show ¬ ((1 : Int32) = 0) from by decide) ?_
              refine wp_run 1 (pc' := 8) (ls' := [.ref 74, .int 3, .int x2, .int 0, .int x4, .int x5, am_du]) (st' := [.int 0]) rfl ?_
              refine wp_callS (as := [.int 0]) (rest := []) (els := [.int 0]) rfl rfl rfl rfl rfl rfl rfl rfl (by omega) ?_
              refine sp_m_isSheet (by omega) (fun _ _ _ => ?_) (fun q => absurd rfl (q 0 (by omega)))
              show am_wp L xs _ _ _ _ 11 [.ref 74, .int 3, .int x2, .int 0, .int x4, .int x5, am_du] [.int 1] (am_S b) (am_u h 73 1 (h 73 1 + 1)) _
              refine wp_if_t rfl (show ¬ (1 : Int32) = 0 from by decide) ?_
              refine wp_run 1 (pc' := 18) (ls' := [.ref 74, .int 3, .int x2, .int 0, .int x4, .int x5, am_du]) (st' := [.ref 74]) rfl ?_
              refine wp_getr 78 rfl rfl rfl ?_
              refine wp_run 1 (pc' := 22) (ls' := [.ref 74, .int 3, .int x2, .int 0, .int x4, .int x5, am_du]) (st' := [.int 3, .ref 78]) rfl ?_
              refine wp_ald (i := 3) (h 78 3) rfl rfl rfl rfl (by decide) rfl ?_
              refine wp_if_f rfl (show ¬ ((h 78 3) = 0) from (fun q => cqz0 (hob.trans q))) ?_
              refine wp_run 1 (pc' := 27) (ls' := [.ref 74, .int 3, .int x2, .int 0, .int x4, .int x5, am_du]) (st' := [.ref 74]) rfl ?_
              refine wp_getr 78 rfl rfl rfl ?_
              refine wp_run 1 (pc' := 31) (ls' := [.ref 74, .int 3, .int x2, .int 0, .int x4, .int x5, am_du]) (st' := [.int 0, .ref 78]) rfl ?_
              refine wp_ald (i := 0) (h 78 0) rfl rfl rfl rfl (by decide) rfl ?_
              refine wp_if_t rfl (show ¬ (h 78 0) = 0 from (fun q => cqz1 (hobB.trans q))) ?_
              refine wp_run 1 (pc' := 39) (ls' := [.ref 74, .int 3, .int x2, .int 0, .int x4, .int x5, am_du]) (st' := [.ref 74]) rfl ?_
              refine wp_getr 78 rfl rfl rfl ?_
              refine wp_run 1 (pc' := 43) (ls' := [.ref 74, .int 3, .int x2, .int 0, .int x4, .int x5, am_du]) (st' := [.int 3, .ref 78]) rfl ?_
              refine wp_ald (i := 3) (h 78 3) rfl rfl rfl rfl (by decide) rfl ?_
              refine wp_run 1 (pc' := 45) (ls' := [.ref 74, .int 3, .int x2, .int 0, .int x4, .int x5, am_du]) (st' := [.ref 74, .int (h 78 3)]) rfl ?_
              refine wp_getr 78 rfl rfl rfl ?_
              refine wp_run 1 (pc' := 49) (ls' := [.ref 74, .int 3, .int x2, .int 0, .int x4, .int x5, am_du]) (st' := [.int 0, .ref 78, .int (h 78 3)]) rfl ?_
              refine wp_ald (i := 0) (h 78 0) rfl rfl rfl rfl (by decide) rfl ?_
              refine wp_icmp_t rfl (show (h 78 3) = (h 78 0) from (hob.symm.trans (cqe.trans hobB))) ?_
              refine wp_run 1 (pc' := 58) (ls' := [.ref 74, .int 3, .int x2, .int 0, .int x4, .int x5, am_du]) (st' := [.int x5]) rfl ?_
              refine wp_if rfl (fun (cq58 : x5 < 0) => ?_) (fun (cq58 : ¬ (x5 < 0)) => ?_)
              · skip
                refine wp_run 3 (pc' := 106) (ls' := [.ref 74, .int 3, .int x2, .int 0, .int x4, .int x5, .int 0]) (st' := [.int 0]) rfl ?_
                refine wp_if_t rfl (show (0 : Int32) = 0 from by decide) ?_
                refine wp_run 1 (pc' := 115) (ls' := [.ref 74, .int 3, .int x2, .int 0, .int x4, .int x5, .int 0]) (st' := [.int (-1000000001)]) rfl ?_
                refine wp_ret rfl ?_
                show am_wp L xs _ _ _ _ 11 [.ref 74, .int 3, .int x2, .int 0, .int x4, .int x5, am_du, am_du, am_du] [.int (-1000000001)] (am_S b) (am_u h 73 1 (h 73 1 + 1)) _
                refine wp_run 2 (pc' := 15) (ls' := [.ref 74, .int 3, .int x2, .int 0, .int x4, .int x5, .int (-1000000001), am_du, am_du]) (st' := [.int (-1000000001)]) rfl ?_
                refine wp_if_f rfl (show ¬ (((-1000000001) : Int32) = 0) from by decide) ?_
                refine wp_run 2 (pc' := 21) (ls' := [.ref 74, .int 3, .int x2, .int 0, .int x4, .int x5, .int (-1000000001), am_du, am_du]) (st' := [.int (-1000000001), .ref 74]) rfl ?_
                refine wp_callV (o := 74) (as := [.int (-1000000001)]) (rest := []) (els := [.ref 74, .int (-1000000001)]) rfl rfl rfl rfl rfl rfl rfl rfl (by omega) ?_
                refine sp_error1 ?_
                show am_wp L xs _ _ _ _ 24 [.ref 74, .int 3, .int x2, .int 0, .int x4, .int x5, .int (-1000000001), am_du, am_du] [.int (-1000000001)] (am_S b) (am_u (am_u h 73 1 (h 73 1 + 1)) 77 1 ((am_u h 73 1 (h 73 1 + 1)) 77 1 + 1)) _
                refine wp_ret rfl ?_
                exact kk2 _ _ (re_err1 hR)
              · skip
                obtain ⟨k5, hk5, ek5⟩ := pu_nonneg (Int32.not_lt.mp cq58)
                subst ek5
                refine wp_run 1 (pc' := 62) (ls' := [.ref 74, .int 3, .int x2, .int 0, .int x4, .int (nI k5), am_du]) (st' := [.int x2]) rfl ?_
                refine wp_if rfl (fun (cq62 : x2 < 0) => ?_) (fun (cq62 : ¬ (x2 < 0)) => ?_)
                · skip
                  refine wp_run 3 (pc' := 106) (ls' := [.ref 74, .int 3, .int x2, .int 0, .int x4, .int (nI k5), .int 0]) (st' := [.int 0]) rfl ?_
                  refine wp_if_t rfl (show (0 : Int32) = 0 from by decide) ?_
                  refine wp_run 1 (pc' := 115) (ls' := [.ref 74, .int 3, .int x2, .int 0, .int x4, .int (nI k5), .int 0]) (st' := [.int (-1000000001)]) rfl ?_
                  refine wp_ret rfl ?_
                  show am_wp L xs _ _ _ _ 11 [.ref 74, .int 3, .int x2, .int 0, .int x4, .int (nI k5), am_du, am_du, am_du] [.int (-1000000001)] (am_S b) (am_u h 73 1 (h 73 1 + 1)) _
                  refine wp_run 2 (pc' := 15) (ls' := [.ref 74, .int 3, .int x2, .int 0, .int x4, .int (nI k5), .int (-1000000001), am_du, am_du]) (st' := [.int (-1000000001)]) rfl ?_
                  refine wp_if_f rfl (show ¬ (((-1000000001) : Int32) = 0) from by decide) ?_
                  refine wp_run 2 (pc' := 21) (ls' := [.ref 74, .int 3, .int x2, .int 0, .int x4, .int (nI k5), .int (-1000000001), am_du, am_du]) (st' := [.int (-1000000001), .ref 74]) rfl ?_
                  refine wp_callV (o := 74) (as := [.int (-1000000001)]) (rest := []) (els := [.ref 74, .int (-1000000001)]) rfl rfl rfl rfl rfl rfl rfl rfl (by omega) ?_
                  refine sp_error1 ?_
                  show am_wp L xs _ _ _ _ 24 [.ref 74, .int 3, .int x2, .int 0, .int x4, .int (nI k5), .int (-1000000001), am_du, am_du] [.int (-1000000001)] (am_S b) (am_u (am_u h 73 1 (h 73 1 + 1)) 77 1 ((am_u h 73 1 (h 73 1 + 1)) 77 1 + 1)) _
                  refine wp_ret rfl ?_
                  exact kk2 _ _ (re_err1 hR)
                · skip
                  obtain ⟨k2, hk2, ek2⟩ := pu_nonneg (Int32.not_lt.mp cq62)
                  subst ek2
                  refine wp_run 1 (pc' := 67) (ls' := [.ref 74, .int 3, .int (nI k2), .int 0, .int x4, .int (nI k5), am_du]) (st' := [.int x4]) rfl ?_
                  refine wp_if rfl (fun (cq67 : x4 < 0) => ?_) (fun (cq67 : ¬ (x4 < 0)) => ?_)
                  · skip
                    refine wp_run 3 (pc' := 106) (ls' := [.ref 74, .int 3, .int (nI k2), .int 0, .int x4, .int (nI k5), .int 0]) (st' := [.int 0]) rfl ?_
                    refine wp_if_t rfl (show (0 : Int32) = 0 from by decide) ?_
                    refine wp_run 1 (pc' := 115) (ls' := [.ref 74, .int 3, .int (nI k2), .int 0, .int x4, .int (nI k5), .int 0]) (st' := [.int (-1000000001)]) rfl ?_
                    refine wp_ret rfl ?_
                    show am_wp L xs _ _ _ _ 11 [.ref 74, .int 3, .int (nI k2), .int 0, .int x4, .int (nI k5), am_du, am_du, am_du] [.int (-1000000001)] (am_S b) (am_u h 73 1 (h 73 1 + 1)) _
                    refine wp_run 2 (pc' := 15) (ls' := [.ref 74, .int 3, .int (nI k2), .int 0, .int x4, .int (nI k5), .int (-1000000001), am_du, am_du]) (st' := [.int (-1000000001)]) rfl ?_
                    refine wp_if_f rfl (show ¬ (((-1000000001) : Int32) = 0) from by decide) ?_
                    refine wp_run 2 (pc' := 21) (ls' := [.ref 74, .int 3, .int (nI k2), .int 0, .int x4, .int (nI k5), .int (-1000000001), am_du, am_du]) (st' := [.int (-1000000001), .ref 74]) rfl ?_
                    refine wp_callV (o := 74) (as := [.int (-1000000001)]) (rest := []) (els := [.ref 74, .int (-1000000001)]) rfl rfl rfl rfl rfl rfl rfl rfl (by omega) ?_
                    refine sp_error1 ?_
                    show am_wp L xs _ _ _ _ 24 [.ref 74, .int 3, .int (nI k2), .int 0, .int x4, .int (nI k5), .int (-1000000001), am_du, am_du] [.int (-1000000001)] (am_S b) (am_u (am_u h 73 1 (h 73 1 + 1)) 77 1 ((am_u h 73 1 (h 73 1 + 1)) 77 1 + 1)) _
                    refine wp_ret rfl ?_
                    exact kk2 _ _ (re_err1 hR)
                  · skip
                    obtain ⟨k4, hk4, ek4⟩ := pu_nonneg (Int32.not_lt.mp cq67)
                    subst ek4
                    refine wp_run 2 (pc' := 73) (ls' := [.ref 74, .int 3, .int (nI k2), .int 0, .int (nI k4), .int (nI k5), am_du]) (st' := [.ref 74, .int (nI k5)]) rfl ?_
                    refine wp_getr 79 rfl rfl rfl ?_
                    refine wp_run 1 (pc' := 77) (ls' := [.ref 74, .int 3, .int (nI k2), .int 0, .int (nI k4), .int (nI k5), am_du]) (st' := [.int 3, .ref 79, .int (nI k5)]) rfl ?_
                    refine wp_ald (i := 3) (nI l) hz2 rfl rfl rfl (by decide) rfl ?_
                    refine wp_run 2 (pc' := 80) (ls' := [.ref 74, .int 3, .int (nI k2), .int 0, .int (nI k4), .int (nI k5), am_du]) (st' := [.int ((nI l) - (nI k2)), .int (nI k5)]) rfl ?_
                    refine wp_icmp_t rfl (show ((nI l) - (nI k2)) < (nI k5) from Int32.not_le.mp (fun q => hno1 k2 k5 rfl rfl (by have := (pu_suble (by omega) (by omega) hl24).mp q; omega))) ?_
                    refine wp_run 3 (pc' := 106) (ls' := [.ref 74, .int 3, .int (nI k2), .int 0, .int (nI k4), .int (nI k5), .int 0]) (st' := [.int 0]) rfl ?_
                    refine wp_if_t rfl (show (0 : Int32) = 0 from by decide) ?_
                    refine wp_run 1 (pc' := 115) (ls' := [.ref 74, .int 3, .int (nI k2), .int 0, .int (nI k4), .int (nI k5), .int 0]) (st' := [.int (-1000000001)]) rfl ?_
                    refine wp_ret rfl ?_
                    show am_wp L xs _ _ _ _ 11 [.ref 74, .int 3, .int (nI k2), .int 0, .int (nI k4), .int (nI k5), am_du, am_du, am_du] [.int (-1000000001)] (am_S b) (am_u h 73 1 (h 73 1 + 1)) _
                    refine wp_run 2 (pc' := 15) (ls' := [.ref 74, .int 3, .int (nI k2), .int 0, .int (nI k4), .int (nI k5), .int (-1000000001), am_du, am_du]) (st' := [.int (-1000000001)]) rfl ?_
                    refine wp_if_f rfl (show ¬ (((-1000000001) : Int32) = 0) from by decide) ?_
                    refine wp_run 2 (pc' := 21) (ls' := [.ref 74, .int 3, .int (nI k2), .int 0, .int (nI k4), .int (nI k5), .int (-1000000001), am_du, am_du]) (st' := [.int (-1000000001), .ref 74]) rfl ?_
                    refine wp_callV (o := 74) (as := [.int (-1000000001)]) (rest := []) (els := [.ref 74, .int (-1000000001)]) rfl rfl rfl rfl rfl rfl rfl rfl (by omega) ?_
                    refine sp_error1 ?_
                    show am_wp L xs _ _ _ _ 24 [.ref 74, .int 3, .int (nI k2), .int 0, .int (nI k4), .int (nI k5), .int (-1000000001), am_du, am_du] [.int (-1000000001)] (am_S b) (am_u (am_u h 73 1 (h 73 1 + 1)) 77 1 ((am_u h 73 1 (h 73 1 + 1)) 77 1 + 1)) _
                    refine wp_ret rfl ?_
                    exact kk2 _ _ (re_err1 hR)
          · skip
            refine wp_run 2 (pc' := 73) (ls' := [.ref 0, .int 3, .int x2, .int 0, .int x4, .int x5, .ref 71, .ref 65]) (st' := [.int 5, .ref 0]) rfl ?_
            refine wp_callV (o := 0) (as := [.int 5]) (rest := []) (els := [.ref 0, .int 5]) rfl rfl rfl rfl rfl rfl rfl rfl (by omega) ?_
            refine sp_refuse5 (by omega) ?_
            show am_wp L xs _ _ _ _ 76 [.ref 0, .int 3, .int x2, .int 0, .int x4, .int x5, .ref 71, .ref 65] [.int (-1000000005)] (am_S b) (am_u h 73 5 (h 73 5 + 1)) _
            refine wp_ret rfl ?_
            refine kk _ _ _ (fun ms2 Q2 kk2 => ?_)
            refine wp_run 6 (pc' := 8) (ls' := [.ref 74, .int 3, .int x2, .int 0, .int x4, .int x5, am_du, am_du, am_du]) (st' := [.int x5, .int x4, .int 0, .int x2, .int 3, .ref 74]) rfl ?_
            refine wp_callV (o := 74) (as := [.int 3, .int x2, .int 0, .int x4, .int x5]) (rest := []) (els := [.ref 74, .int 3, .int x2, .int 0, .int x4, .int x5, am_du]) rfl rfl rfl rfl rfl rfl rfl rfl (by omega) ?_
            refine wp_run 1 (pc' := 1) (ls' := [.ref 74, .int 3, .int x2, .int 0, .int x4, .int x5, am_du]) (st' := [.int 3]) rfl ?_
            refine wp_callS (as := [.int 3]) (rest := []) (els := [.int 3]) rfl rfl rfl rfl rfl rfl rfl rfl (by omega) ?_
            refine sp_m_isSheet (by omega) (fun _ _ _ => ?_) (fun q => absurd rfl (q 3 (by omega)))
            show am_wp L xs _ _ _ _ 4 [.ref 74, .int 3, .int x2, .int 0, .int x4, .int x5, am_du] [.int 1] (am_S b) (am_u h 73 5 (h 73 5 + 1)) _
            refine wp_if_f rfl (show ¬ ((1 : Int32) = 0) from by decide) ?_
            refine wp_run 1 (pc' := 8) (ls' := [.ref 74, .int 3, .int x2, .int 0, .int x4, .int x5, am_du]) (st' := [.int 0]) rfl ?_
            refine wp_callS (as := [.int 0]) (rest := []) (els := [.int 0]) rfl rfl rfl rfl rfl rfl rfl rfl (by omega) ?_
            refine sp_m_isSheet (by omega) (fun _ _ _ => ?_) (fun q => absurd rfl (q 0 (by omega)))
            show am_wp L xs _ _ _ _ 11 [.ref 74, .int 3, .int x2, .int 0, .int x4, .int x5, am_du] [.int 1] (am_S b) (am_u h 73 5 (h 73 5 + 1)) _
            refine wp_if_t rfl (show ¬ (1 : Int32) = 0 from by decide) ?_
            refine wp_run 1 (pc' := 18) (ls' := [.ref 74, .int 3, .int x2, .int 0, .int x4, .int x5, am_du]) (st' := [.ref 74]) rfl ?_
            refine wp_getr 78 rfl rfl rfl ?_
            refine wp_run 1 (pc' := 22) (ls' := [.ref 74, .int 3, .int x2, .int 0, .int x4, .int x5, am_du]) (st' := [.int 3, .ref 78]) rfl ?_
            refine wp_ald (i := 3) (h 78 3) rfl rfl rfl rfl (by decide) rfl ?_
            refine wp_if_f rfl (show ¬ ((h 78 3) = 0) from (fun q => cqz0 (hob.trans q))) ?_
            refine wp_run 1 (pc' := 27) (ls' := [.ref 74, .int 3, .int x2, .int 0, .int x4, .int x5, am_du]) (st' := [.ref 74]) rfl ?_
            refine wp_getr 78 rfl rfl rfl ?_
            refine wp_run 1 (pc' := 31) (ls' := [.ref 74, .int 3, .int x2, .int 0, .int x4, .int x5, am_du]) (st' := [.int 0, .ref 78]) rfl ?_
            refine wp_ald (i := 0) (h 78 0) rfl rfl rfl rfl (by decide) rfl ?_
            refine wp_if_t rfl (show ¬ (h 78 0) = 0 from (fun q => cqz1 (hobB.trans q))) ?_
            refine wp_run 1 (pc' := 39) (ls' := [.ref 74, .int 3, .int x2, .int 0, .int x4, .int x5, am_du]) (st' := [.ref 74]) rfl ?_
            refine wp_getr 78 rfl rfl rfl ?_
            refine wp_run 1 (pc' := 43) (ls' := [.ref 74, .int 3, .int x2, .int 0, .int x4, .int x5, am_du]) (st' := [.int 3, .ref 78]) rfl ?_
            refine wp_ald (i := 3) (h 78 3) rfl rfl rfl rfl (by decide) rfl ?_
            refine wp_run 1 (pc' := 45) (ls' := [.ref 74, .int 3, .int x2, .int 0, .int x4, .int x5, am_du]) (st' := [.ref 74, .int (h 78 3)]) rfl ?_
            refine wp_getr 78 rfl rfl rfl ?_
            refine wp_run 1 (pc' := 49) (ls' := [.ref 74, .int 3, .int x2, .int 0, .int x4, .int x5, am_du]) (st' := [.int 0, .ref 78, .int (h 78 3)]) rfl ?_
            refine wp_ald (i := 0) (h 78 0) rfl rfl rfl rfl (by decide) rfl ?_
            refine wp_icmp_f rfl (show ¬ ((h 78 3) = (h 78 0)) from (fun q => cqe (hob.trans (q.trans hobB.symm)))) ?_
            refine wp_run 1 (pc' := 55) (ls' := [.ref 74, .int 3, .int x2, .int 0, .int x4, .int x5, am_du]) (st' := [.int (-1000000005)]) rfl ?_
            refine wp_ret rfl ?_
            show am_wp L xs _ _ _ _ 11 [.ref 74, .int 3, .int x2, .int 0, .int x4, .int x5, am_du, am_du, am_du] [.int (-1000000005)] (am_S b) (am_u h 73 5 (h 73 5 + 1)) _
            refine wp_run 2 (pc' := 15) (ls' := [.ref 74, .int 3, .int x2, .int 0, .int x4, .int x5, .int (-1000000005), am_du, am_du]) (st' := [.int (-1000000005)]) rfl ?_
            refine wp_if_f rfl (show ¬ (((-1000000005) : Int32) = 0) from by decide) ?_
            refine wp_run 2 (pc' := 21) (ls' := [.ref 74, .int 3, .int x2, .int 0, .int x4, .int x5, .int (-1000000005), am_du, am_du]) (st' := [.int (-1000000005), .ref 74]) rfl ?_
            refine wp_callV (o := 74) (as := [.int (-1000000005)]) (rest := []) (els := [.ref 74, .int (-1000000005)]) rfl rfl rfl rfl rfl rfl rfl rfl (by omega) ?_
            refine sp_error5 ?_
            show am_wp L xs _ _ _ _ 24 [.ref 74, .int 3, .int x2, .int 0, .int x4, .int x5, .int (-1000000005), am_du, am_du] [.int (-1000000005)] (am_S b) (am_u (am_u h 73 5 (h 73 5 + 1)) 77 5 ((am_u h 73 5 (h 73 5 + 1)) 77 5 + 1)) _
            refine wp_ret rfl ?_
            exact kk2 _ _ (re_err5 hR)
        · skip
          replace cqz1 := Decidable.not_not.mp cqz1
          refine wp_run 2 (pc' := 12) (ls' := [.ref 65]) (st' := [.int 1]) rfl ?_
          refine wp_retz rfl (Or.inr rfl) ?_
          show am_wp L xs _ _ _ _ 49 [.ref 0, .int 3, .int x2, .int 0, .int x4, .int x5, .ref 71, .ref 65] [.int 1] (am_S b) h _
          refine wp_if_f rfl (show ¬ ((1 : Int32) = 0) from by decide) ?_
          refine wp_run 2 (pc' := 54) (ls' := [.ref 0, .int 3, .int x2, .int 0, .int x4, .int x5, .ref 71, .ref 65]) (st' := [.int 2, .ref 0]) rfl ?_
          refine wp_callV (o := 0) (as := [.int 2]) (rest := []) (els := [.ref 0, .int 2]) rfl rfl rfl rfl rfl rfl rfl rfl (by omega) ?_
          refine sp_refuse2 (by omega) ?_
          show am_wp L xs _ _ _ _ 57 [.ref 0, .int 3, .int x2, .int 0, .int x4, .int x5, .ref 71, .ref 65] [.int (-1000000002)] (am_S b) (am_u h 73 2 (h 73 2 + 1)) _
          refine wp_ret rfl ?_
          refine kk _ _ _ (fun ms2 Q2 kk2 => ?_)
          refine wp_run 6 (pc' := 8) (ls' := [.ref 74, .int 3, .int x2, .int 0, .int x4, .int x5, am_du, am_du, am_du]) (st' := [.int x5, .int x4, .int 0, .int x2, .int 3, .ref 74]) rfl ?_
          refine wp_callV (o := 74) (as := [.int 3, .int x2, .int 0, .int x4, .int x5]) (rest := []) (els := [.ref 74, .int 3, .int x2, .int 0, .int x4, .int x5, am_du]) rfl rfl rfl rfl rfl rfl rfl rfl (by omega) ?_
          refine wp_run 1 (pc' := 1) (ls' := [.ref 74, .int 3, .int x2, .int 0, .int x4, .int x5, am_du]) (st' := [.int 3]) rfl ?_
          refine wp_callS (as := [.int 3]) (rest := []) (els := [.int 3]) rfl rfl rfl rfl rfl rfl rfl rfl (by omega) ?_
          refine sp_m_isSheet (by omega) (fun _ _ _ => ?_) (fun q => absurd rfl (q 3 (by omega)))
          show am_wp L xs _ _ _ _ 4 [.ref 74, .int 3, .int x2, .int 0, .int x4, .int x5, am_du] [.int 1] (am_S b) (am_u h 73 2 (h 73 2 + 1)) _
          refine wp_if_f rfl (show ¬ ((1 : Int32) = 0) from by decide) ?_
          refine wp_run 1 (pc' := 8) (ls' := [.ref 74, .int 3, .int x2, .int 0, .int x4, .int x5, am_du]) (st' := [.int 0]) rfl ?_
          refine wp_callS (as := [.int 0]) (rest := []) (els := [.int 0]) rfl rfl rfl rfl rfl rfl rfl rfl (by omega) ?_
          refine sp_m_isSheet (by omega) (fun _ _ _ => ?_) (fun q => absurd rfl (q 0 (by omega)))
          show am_wp L xs _ _ _ _ 11 [.ref 74, .int 3, .int x2, .int 0, .int x4, .int x5, am_du] [.int 1] (am_S b) (am_u h 73 2 (h 73 2 + 1)) _
          refine wp_if_t rfl (show ¬ (1 : Int32) = 0 from by decide) ?_
          refine wp_run 1 (pc' := 18) (ls' := [.ref 74, .int 3, .int x2, .int 0, .int x4, .int x5, am_du]) (st' := [.ref 74]) rfl ?_
          refine wp_getr 78 rfl rfl rfl ?_
          refine wp_run 1 (pc' := 22) (ls' := [.ref 74, .int 3, .int x2, .int 0, .int x4, .int x5, am_du]) (st' := [.int 3, .ref 78]) rfl ?_
          refine wp_ald (i := 3) (h 78 3) rfl rfl rfl rfl (by decide) rfl ?_
          refine wp_if_f rfl (show ¬ ((h 78 3) = 0) from (fun q => cqz0 (hob.trans q))) ?_
          refine wp_run 1 (pc' := 27) (ls' := [.ref 74, .int 3, .int x2, .int 0, .int x4, .int x5, am_du]) (st' := [.ref 74]) rfl ?_
          refine wp_getr 78 rfl rfl rfl ?_
          refine wp_run 1 (pc' := 31) (ls' := [.ref 74, .int 3, .int x2, .int 0, .int x4, .int x5, am_du]) (st' := [.int 0, .ref 78]) rfl ?_
          refine wp_ald (i := 0) (h 78 0) rfl rfl rfl rfl (by decide) rfl ?_
          refine wp_if_f rfl (show ¬ (¬ (h 78 0) = 0) from (fun q => q (hobB.symm.trans cqz1))) ?_
          refine wp_run 1 (pc' := 37) (ls' := [.ref 74, .int 3, .int x2, .int 0, .int x4, .int x5, am_du]) (st' := [.int (-1000000002)]) rfl ?_
          refine wp_ret rfl ?_
          show am_wp L xs _ _ _ _ 11 [.ref 74, .int 3, .int x2, .int 0, .int x4, .int x5, am_du, am_du, am_du] [.int (-1000000002)] (am_S b) (am_u h 73 2 (h 73 2 + 1)) _
          refine wp_run 2 (pc' := 15) (ls' := [.ref 74, .int 3, .int x2, .int 0, .int x4, .int x5, .int (-1000000002), am_du, am_du]) (st' := [.int (-1000000002)]) rfl ?_
          refine wp_if_f rfl (show ¬ (((-1000000002) : Int32) = 0) from by decide) ?_
          refine wp_run 2 (pc' := 21) (ls' := [.ref 74, .int 3, .int x2, .int 0, .int x4, .int x5, .int (-1000000002), am_du, am_du]) (st' := [.int (-1000000002), .ref 74]) rfl ?_
          refine wp_callV (o := 74) (as := [.int (-1000000002)]) (rest := []) (els := [.ref 74, .int (-1000000002)]) rfl rfl rfl rfl rfl rfl rfl rfl (by omega) ?_
          refine sp_error2 ?_
          show am_wp L xs _ _ _ _ 24 [.ref 74, .int 3, .int x2, .int 0, .int x4, .int x5, .int (-1000000002), am_du, am_du] [.int (-1000000002)] (am_S b) (am_u (am_u h 73 2 (h 73 2 + 1)) 77 2 ((am_u h 73 2 (h 73 2 + 1)) 77 2 + 1)) _
          refine wp_ret rfl ?_
          exact kk2 _ _ (re_err2 hR)
      · skip
        replace cqz0 := Decidable.not_not.mp cqz0
        refine wp_run 2 (pc' := 12) (ls' := [.ref 71]) (st' := [.int 1]) rfl ?_
        refine wp_retz rfl (Or.inr rfl) ?_
        show am_wp L xs _ _ _ _ 41 [.ref 0, .int 3, .int x2, .int 0, .int x4, .int x5, .ref 71, .ref 65] [.int 1] (am_S b) h _
        refine wp_if_t rfl (show ¬ (1 : Int32) = 0 from by decide) ?_
        refine wp_run 2 (pc' := 54) (ls' := [.ref 0, .int 3, .int x2, .int 0, .int x4, .int x5, .ref 71, .ref 65]) (st' := [.int 2, .ref 0]) rfl ?_
        refine wp_callV (o := 0) (as := [.int 2]) (rest := []) (els := [.ref 0, .int 2]) rfl rfl rfl rfl rfl rfl rfl rfl (by omega) ?_
        refine sp_refuse2 (by omega) ?_
        show am_wp L xs _ _ _ _ 57 [.ref 0, .int 3, .int x2, .int 0, .int x4, .int x5, .ref 71, .ref 65] [.int (-1000000002)] (am_S b) (am_u h 73 2 (h 73 2 + 1)) _
        refine wp_ret rfl ?_
        refine kk _ _ _ (fun ms2 Q2 kk2 => ?_)
        refine wp_run 6 (pc' := 8) (ls' := [.ref 74, .int 3, .int x2, .int 0, .int x4, .int x5, am_du, am_du, am_du]) (st' := [.int x5, .int x4, .int 0, .int x2, .int 3, .ref 74]) rfl ?_
        refine wp_callV (o := 74) (as := [.int 3, .int x2, .int 0, .int x4, .int x5]) (rest := []) (els := [.ref 74, .int 3, .int x2, .int 0, .int x4, .int x5, am_du]) rfl rfl rfl rfl rfl rfl rfl rfl (by omega) ?_
        refine wp_run 1 (pc' := 1) (ls' := [.ref 74, .int 3, .int x2, .int 0, .int x4, .int x5, am_du]) (st' := [.int 3]) rfl ?_
        refine wp_callS (as := [.int 3]) (rest := []) (els := [.int 3]) rfl rfl rfl rfl rfl rfl rfl rfl (by omega) ?_
        refine sp_m_isSheet (by omega) (fun _ _ _ => ?_) (fun q => absurd rfl (q 3 (by omega)))
        show am_wp L xs _ _ _ _ 4 [.ref 74, .int 3, .int x2, .int 0, .int x4, .int x5, am_du] [.int 1] (am_S b) (am_u h 73 2 (h 73 2 + 1)) _
        refine wp_if_f rfl (show ¬ ((1 : Int32) = 0) from by decide) ?_
        refine wp_run 1 (pc' := 8) (ls' := [.ref 74, .int 3, .int x2, .int 0, .int x4, .int x5, am_du]) (st' := [.int 0]) rfl ?_
        refine wp_callS (as := [.int 0]) (rest := []) (els := [.int 0]) rfl rfl rfl rfl rfl rfl rfl rfl (by omega) ?_
        refine sp_m_isSheet (by omega) (fun _ _ _ => ?_) (fun q => absurd rfl (q 0 (by omega)))
        show am_wp L xs _ _ _ _ 11 [.ref 74, .int 3, .int x2, .int 0, .int x4, .int x5, am_du] [.int 1] (am_S b) (am_u h 73 2 (h 73 2 + 1)) _
        refine wp_if_t rfl (show ¬ (1 : Int32) = 0 from by decide) ?_
        refine wp_run 1 (pc' := 18) (ls' := [.ref 74, .int 3, .int x2, .int 0, .int x4, .int x5, am_du]) (st' := [.ref 74]) rfl ?_
        refine wp_getr 78 rfl rfl rfl ?_
        refine wp_run 1 (pc' := 22) (ls' := [.ref 74, .int 3, .int x2, .int 0, .int x4, .int x5, am_du]) (st' := [.int 3, .ref 78]) rfl ?_
        refine wp_ald (i := 3) (h 78 3) rfl rfl rfl rfl (by decide) rfl ?_
        refine wp_if_t rfl (show (h 78 3) = 0 from (hob.symm.trans cqz0)) ?_
        refine wp_run 1 (pc' := 37) (ls' := [.ref 74, .int 3, .int x2, .int 0, .int x4, .int x5, am_du]) (st' := [.int (-1000000002)]) rfl ?_
        refine wp_ret rfl ?_
        show am_wp L xs _ _ _ _ 11 [.ref 74, .int 3, .int x2, .int 0, .int x4, .int x5, am_du, am_du, am_du] [.int (-1000000002)] (am_S b) (am_u h 73 2 (h 73 2 + 1)) _
        refine wp_run 2 (pc' := 15) (ls' := [.ref 74, .int 3, .int x2, .int 0, .int x4, .int x5, .int (-1000000002), am_du, am_du]) (st' := [.int (-1000000002)]) rfl ?_
        refine wp_if_f rfl (show ¬ (((-1000000002) : Int32) = 0) from by decide) ?_
        refine wp_run 2 (pc' := 21) (ls' := [.ref 74, .int 3, .int x2, .int 0, .int x4, .int x5, .int (-1000000002), am_du, am_du]) (st' := [.int (-1000000002), .ref 74]) rfl ?_
        refine wp_callV (o := 74) (as := [.int (-1000000002)]) (rest := []) (els := [.ref 74, .int (-1000000002)]) rfl rfl rfl rfl rfl rfl rfl rfl (by omega) ?_
        refine sp_error2 ?_
        show am_wp L xs _ _ _ _ 24 [.ref 74, .int 3, .int x2, .int 0, .int x4, .int x5, .int (-1000000002), am_du, am_du] [.int (-1000000002)] (am_S b) (am_u (am_u h 73 2 (h 73 2 + 1)) 77 2 ((am_u h 73 2 (h 73 2 + 1)) 77 2 + 1)) _
        refine wp_ret rfl ?_
        exact kk2 _ _ (re_err2 hR)
    · skip
      intro ex3
      subst ex3
      show am_wp L xs _ _ _ _ 11 [.ref 0, .int 3, .int x2, .int 1, .int x4, .int x5, am_du, am_du] [.int 1] (am_S b) h _
      refine wp_if_t rfl (show ¬ (1 : Int32) = 0 from by decide) ?_
      obtain ⟨l, hl24, ho2, hz2, hob, hbb, hri⟩ := id hS3
      obtain ⟨lB, hl24B, ho2B, hz2B, hobB, hbbB, hriB⟩ := id hS1
      refine wp_run 1 (pc' := 21) (ls' := [.ref 0, .int 3, .int x2, .int 1, .int x4, .int x5, am_du, am_du]) (st' := [.ref 0]) rfl ?_
      refine wp_getr 64 rfl rfl rfl ?_
      refine wp_run 1 (pc' := 25) (ls' := [.ref 0, .int 3, .int x2, .int 1, .int x4, .int x5, am_du, am_du]) (st' := [.int 3, .ref 64]) rfl ?_
      refine wp_aald (r := 71) rfl rfl (Or.inr rfl) rfl (by decide) rfl rfl ?_
      refine wp_run 2 (pc' := 29) (ls' := [.ref 0, .int 3, .int x2, .int 1, .int x4, .int x5, .ref 71, am_du]) (st' := [.ref 0]) rfl ?_
      refine wp_getr 64 rfl rfl rfl ?_
      refine wp_run 1 (pc' := 33) (ls' := [.ref 0, .int 3, .int x2, .int 1, .int x4, .int x5, .ref 71, am_du]) (st' := [.int 1, .ref 64]) rfl ?_
      refine wp_aald (r := 67) rfl rfl (Or.inr rfl) rfl (by decide) rfl rfl ?_
      refine wp_run 2 (pc' := 38) (ls' := [.ref 0, .int 3, .int x2, .int 1, .int x4, .int x5, .ref 71, .ref 67]) (st' := [.ref 71]) rfl ?_
      refine wp_callV (o := 71) (as := []) (rest := []) (els := [.ref 71]) rfl rfl rfl rfl rfl rfl rfl rfl (by omega) ?_
      refine wp_run 1 (pc' := 1) (ls' := [.ref 71]) (st' := [.ref 71]) rfl ?_
      refine wp_geti (a := 1) (h 71 1) rfl rfl rfl rfl ?_
      refine wp_if rfl (fun (cqz0 : ¬ (h 71 1) = 0) => ?_) (fun (cqz0 : ¬ (¬ (h 71 1) = 0)) => ?_)
      · skip
        refine wp_run 1 (pc' := 12) (ls' := [.ref 71]) (st' := [.int 0]) rfl ?_
        refine wp_retz rfl (Or.inl rfl) ?_
        show am_wp L xs _ _ _ _ 41 [.ref 0, .int 3, .int x2, .int 1, .int x4, .int x5, .ref 71, .ref 67] [.int 0] (am_S b) h _
        refine wp_if_f rfl (show ¬ (¬ (0 : Int32) = 0) from by decide) ?_
        refine wp_run 1 (pc' := 46) (ls' := [.ref 0, .int 3, .int x2, .int 1, .int x4, .int x5, .ref 71, .ref 67]) (st' := [.ref 67]) rfl ?_
        refine wp_callV (o := 67) (as := []) (rest := []) (els := [.ref 67]) rfl rfl rfl rfl rfl rfl rfl rfl (by omega) ?_
        refine wp_run 1 (pc' := 1) (ls' := [.ref 67]) (st' := [.ref 67]) rfl ?_
        refine wp_geti (a := 1) (h 67 1) rfl rfl rfl rfl ?_
        refine wp_if rfl (fun (cqz1 : ¬ (h 67 1) = 0) => ?_) (fun (cqz1 : ¬ (¬ (h 67 1) = 0)) => ?_)
        · skip
          refine wp_run 1 (pc' := 12) (ls' := [.ref 67]) (st' := [.int 0]) rfl ?_
          refine wp_retz rfl (Or.inl rfl) ?_
          show am_wp L xs _ _ _ _ 49 [.ref 0, .int 3, .int x2, .int 1, .int x4, .int x5, .ref 71, .ref 67] [.int 0] (am_S b) h _
          refine wp_if_t rfl (show (0 : Int32) = 0 from by decide) ?_
          refine wp_run 1 (pc' := 60) (ls' := [.ref 0, .int 3, .int x2, .int 1, .int x4, .int x5, .ref 71, .ref 67]) (st' := [.ref 71]) rfl ?_
          refine wp_geti (a := 1) (h 71 1) rfl rfl rfl rfl ?_
          refine wp_run 1 (pc' := 65) (ls' := [.ref 0, .int 3, .int x2, .int 1, .int x4, .int x5, .ref 71, .ref 67]) (st' := [.ref 67, .int (h 71 1)]) rfl ?_
          refine wp_geti (a := 1) (h 67 1) rfl rfl rfl rfl ?_
          refine wp_icmp rfl (fun (cqe : (h 71 1) = (h 67 1)) => ?_) (fun (cqe : ¬ ((h 71 1) = (h 67 1))) => ?_)
          · skip
            refine wp_run 3 (pc' := 82) (ls' := [.ref 0, .int 3, .int x2, .int 1, .int x4, .int x5, .ref 71, .ref 67]) (st' := [.int x5, .int x2, .ref 71]) rfl ?_
            refine wp_callV (o := 71) (as := [.int x2, .int x5]) (rest := []) (els := [.ref 71, .int x2, .int x5]) rfl rfl rfl rfl rfl rfl rfl rfl (by omega) ?_
            refine sp_holds (h := h) (o := 71) (l := l) rfl ho2 hl24 (by omega) ?_ ?_
            · skip
              intro k2 k5 e5 e2 hle1
              subst e5
              subst e2
              show am_wp L xs _ _ _ _ 85 [.ref 0, .int 3, .int (nI k2), .int 1, .int x4, .int (nI k5), .ref 71, .ref 67] [.int 1] (am_S b) h _
              refine wp_if_f rfl (show ¬ ((1 : Int32) = 0) from by decide) ?_
              refine wp_run 3 (pc' := 94) (ls' := [.ref 0, .int 3, .int (nI k2), .int 1, .int x4, .int (nI k5), .ref 71, .ref 67]) (st' := [.int (nI k5), .int x4, .ref 67]) rfl ?_
              refine wp_callV (o := 67) (as := [.int x4, .int (nI k5)]) (rest := []) (els := [.ref 67, .int x4, .int (nI k5)]) rfl rfl rfl rfl rfl rfl rfl rfl (by omega) ?_
              refine sp_holds (h := h) (o := 67) (l := lB) rfl ho2B hl24B (by omega) ?_ ?_
              · skip
                intro k4 n4 q1 e4 hle2
                have en := pu_inj (by omega) (by omega) q1
                subst en
                subst e4
                show am_wp L xs _ _ _ _ 97 [.ref 0, .int 3, .int (nI k2), .int 1, .int (nI k4), .int (nI k5), .ref 71, .ref 67] [.int 1] (am_S b) h _
                refine wp_if_t rfl (show ¬ (1 : Int32) = 0 from by decide) ?_
                refine wp_run 1 (pc' := 108) (ls' := [.ref 0, .int 3, .int (nI k2), .int 1, .int (nI k4), .int (nI k5), .ref 71, .ref 67]) (st' := [.ref 71]) rfl ?_
                refine wp_getr 72 rfl rfl rfl ?_
                refine wp_run 2 (pc' := 114) (ls' := [.ref 0, .int 3, .int (nI k2), .int 1, .int (nI k4), .int (nI k5), .ref 71, .ref 67]) (st' := [.ref 67, .int (nI k2), .ref 72]) rfl ?_
                refine wp_getr 68 rfl rfl rfl ?_
                refine wp_run 2 (pc' := 121) (ls' := [.ref 0, .int 3, .int (nI k2), .int 1, .int (nI k4), .int (nI k5), .ref 71, .ref 67]) (st' := [.int (nI k5), .int (nI k4), .ref 68, .int (nI k2), .ref 72]) rfl ?_
                refine wp_copy (q := 72) (o := 68) (sp := k2) (dp := k4) (n := k5) rfl rfl rfl rfl rfl rfl (by omega) (by omega) (by omega) (by omega) rfl (by omega) ?_
                refine wp_run 1 (pc' := 126) (ls' := [.ref 0, .int 3, .int (nI k2), .int 1, .int (nI k4), .int (nI k5), .ref 71, .ref 67]) (st' := [.int (nI k5)]) rfl ?_
                refine wp_ret rfl ?_
                refine kk _ _ _ (fun ms2 Q2 kk2 => ?_)
                refine wp_run 6 (pc' := 8) (ls' := [.ref 74, .int 3, .int (nI k2), .int 1, .int (nI k4), .int (nI k5), am_du, am_du, am_du]) (st' := [.int (nI k5), .int (nI k4), .int 1, .int (nI k2), .int 3, .ref 74]) rfl ?_
                refine wp_callV (o := 74) (as := [.int 3, .int (nI k2), .int 1, .int (nI k4), .int (nI k5)]) (rest := []) (els := [.ref 74, .int 3, .int (nI k2), .int 1, .int (nI k4), .int (nI k5), am_du]) rfl rfl rfl rfl rfl rfl rfl rfl (by omega) ?_
                refine wp_run 1 (pc' := 1) (ls' := [.ref 74, .int 3, .int (nI k2), .int 1, .int (nI k4), .int (nI k5), am_du]) (st' := [.int 3]) rfl ?_
                refine wp_callS (as := [.int 3]) (rest := []) (els := [.int 3]) rfl rfl rfl rfl rfl rfl rfl rfl (by omega) ?_
                refine sp_m_isSheet (by omega) (fun _ _ _ => ?_) (fun q => absurd rfl (q 3 (by omega)))
                show am_wp L xs _ _ _ _ 4 [.ref 74, .int 3, .int (nI k2), .int 1, .int (nI k4), .int (nI k5), am_du] [.int 1] (am_S b) (am_ur h 68 (va_cpy (h 72) (h 68) k2 k4 k5)) _
                refine wp_if_f rfl (show ¬ ((1 : Int32) = 0) from by decide) ?_
                refine wp_run 1 (pc' := 8) (ls' := [.ref 74, .int 3, .int (nI k2), .int 1, .int (nI k4), .int (nI k5), am_du]) (st' := [.int 1]) rfl ?_
                refine wp_callS (as := [.int 1]) (rest := []) (els := [.int 1]) rfl rfl rfl rfl rfl rfl rfl rfl (by omega) ?_
                refine sp_m_isSheet (by omega) (fun _ _ _ => ?_) (fun q => absurd rfl (q 1 (by omega)))
                show am_wp L xs _ _ _ _ 11 [.ref 74, .int 3, .int (nI k2), .int 1, .int (nI k4), .int (nI k5), am_du] [.int 1] (am_S b) (am_ur h 68 (va_cpy (h 72) (h 68) k2 k4 k5)) _
                refine wp_if_t rfl (show ¬ (1 : Int32) = 0 from by decide) ?_
                refine wp_run 1 (pc' := 18) (ls' := [.ref 74, .int 3, .int (nI k2), .int 1, .int (nI k4), .int (nI k5), am_du]) (st' := [.ref 74]) rfl ?_
                refine wp_getr 78 rfl rfl rfl ?_
                refine wp_run 1 (pc' := 22) (ls' := [.ref 74, .int 3, .int (nI k2), .int 1, .int (nI k4), .int (nI k5), am_du]) (st' := [.int 3, .ref 78]) rfl ?_
                refine wp_ald (i := 3) (h 78 3) rfl rfl rfl rfl (by decide) rfl ?_
                refine wp_if_f rfl (show ¬ ((h 78 3) = 0) from (fun q => cqz0 (hob.trans q))) ?_
                refine wp_run 1 (pc' := 27) (ls' := [.ref 74, .int 3, .int (nI k2), .int 1, .int (nI k4), .int (nI k5), am_du]) (st' := [.ref 74]) rfl ?_
                refine wp_getr 78 rfl rfl rfl ?_
                refine wp_run 1 (pc' := 31) (ls' := [.ref 74, .int 3, .int (nI k2), .int 1, .int (nI k4), .int (nI k5), am_du]) (st' := [.int 1, .ref 78]) rfl ?_
                refine wp_ald (i := 1) (h 78 1) rfl rfl rfl rfl (by decide) rfl ?_
                refine wp_if_t rfl (show ¬ (h 78 1) = 0 from (fun q => cqz1 (hobB.trans q))) ?_
                refine wp_run 1 (pc' := 39) (ls' := [.ref 74, .int 3, .int (nI k2), .int 1, .int (nI k4), .int (nI k5), am_du]) (st' := [.ref 74]) rfl ?_
                refine wp_getr 78 rfl rfl rfl ?_
                refine wp_run 1 (pc' := 43) (ls' := [.ref 74, .int 3, .int (nI k2), .int 1, .int (nI k4), .int (nI k5), am_du]) (st' := [.int 3, .ref 78]) rfl ?_
                refine wp_ald (i := 3) (h 78 3) rfl rfl rfl rfl (by decide) rfl ?_
                refine wp_run 1 (pc' := 45) (ls' := [.ref 74, .int 3, .int (nI k2), .int 1, .int (nI k4), .int (nI k5), am_du]) (st' := [.ref 74, .int (h 78 3)]) rfl ?_
                refine wp_getr 78 rfl rfl rfl ?_
                refine wp_run 1 (pc' := 49) (ls' := [.ref 74, .int 3, .int (nI k2), .int 1, .int (nI k4), .int (nI k5), am_du]) (st' := [.int 1, .ref 78, .int (h 78 3)]) rfl ?_
                refine wp_ald (i := 1) (h 78 1) rfl rfl rfl rfl (by decide) rfl ?_
                refine wp_icmp_t rfl (show (h 78 3) = (h 78 1) from (hob.symm.trans (cqe.trans hobB))) ?_
                refine wp_run 1 (pc' := 58) (ls' := [.ref 74, .int 3, .int (nI k2), .int 1, .int (nI k4), .int (nI k5), am_du]) (st' := [.int (nI k5)]) rfl ?_
                refine wp_if_f rfl (show ¬ ((nI k5) < 0) from mt (nI_ltI (a := k5) (b := 0) (by omega) (by omega)).mp (by omega)) ?_
                refine wp_run 1 (pc' := 62) (ls' := [.ref 74, .int 3, .int (nI k2), .int 1, .int (nI k4), .int (nI k5), am_du]) (st' := [.int (nI k2)]) rfl ?_
                refine wp_if_f rfl (show ¬ ((nI k2) < 0) from mt (nI_ltI (a := k2) (b := 0) (by omega) (by omega)).mp (by omega)) ?_
                refine wp_run 1 (pc' := 67) (ls' := [.ref 74, .int 3, .int (nI k2), .int 1, .int (nI k4), .int (nI k5), am_du]) (st' := [.int (nI k4)]) rfl ?_
                refine wp_if_f rfl (show ¬ ((nI k4) < 0) from mt (nI_ltI (a := k4) (b := 0) (by omega) (by omega)).mp (by omega)) ?_
                refine wp_run 2 (pc' := 73) (ls' := [.ref 74, .int 3, .int (nI k2), .int 1, .int (nI k4), .int (nI k5), am_du]) (st' := [.ref 74, .int (nI k5)]) rfl ?_
                refine wp_getr 79 rfl rfl rfl ?_
                refine wp_run 1 (pc' := 77) (ls' := [.ref 74, .int 3, .int (nI k2), .int 1, .int (nI k4), .int (nI k5), am_du]) (st' := [.int 3, .ref 79, .int (nI k5)]) rfl ?_
                refine wp_ald (i := 3) (nI l) hz2 rfl rfl rfl (by decide) rfl ?_
                refine wp_run 2 (pc' := 80) (ls' := [.ref 74, .int 3, .int (nI k2), .int 1, .int (nI k4), .int (nI k5), am_du]) (st' := [.int ((nI l) - (nI k2)), .int (nI k5)]) rfl ?_
                refine wp_icmp_f rfl (show ¬ (((nI l) - (nI k2)) < (nI k5)) from Int32.not_lt.mpr ((pu_suble (by omega) (by omega) hl24).mpr (by omega))) ?_
                refine wp_run 2 (pc' := 86) (ls' := [.ref 74, .int 3, .int (nI k2), .int 1, .int (nI k4), .int (nI k5), am_du]) (st' := [.ref 74, .int (nI k5)]) rfl ?_
                refine wp_getr 79 rfl rfl rfl ?_
                refine wp_run 1 (pc' := 90) (ls' := [.ref 74, .int 3, .int (nI k2), .int 1, .int (nI k4), .int (nI k5), am_du]) (st' := [.int 1, .ref 79, .int (nI k5)]) rfl ?_
                refine wp_ald (i := 1) (nI lB) hz2B rfl rfl rfl (by decide) rfl ?_
                refine wp_run 2 (pc' := 94) (ls' := [.ref 74, .int 3, .int (nI k2), .int 1, .int (nI k4), .int (nI k5), am_du]) (st' := [.int ((nI lB) - (nI k4)), .int (nI k5)]) rfl ?_
                refine wp_icmp_f rfl (show ¬ (((nI lB) - (nI k4)) < (nI k5)) from Int32.not_lt.mpr ((pu_suble (by omega) (by omega) hl24B).mpr (by omega))) ?_
                refine wp_run 4 (pc' := 106) (ls' := [.ref 74, .int 3, .int (nI k2), .int 1, .int (nI k4), .int (nI k5), .int 1]) (st' := [.int 1]) rfl ?_
                refine wp_if_f rfl (show ¬ ((1 : Int32) = 0) from by decide) ?_
                refine wp_run 2 (pc' := 115) (ls' := [.ref 74, .int 3, .int (nI k2), .int 1, .int (nI k4), .int (nI k5), .int 1]) (st' := [.int 0]) rfl ?_
                refine wp_ret rfl ?_
                show am_wp L xs _ _ _ _ 11 [.ref 74, .int 3, .int (nI k2), .int 1, .int (nI k4), .int (nI k5), am_du, am_du, am_du] [.int 0] (am_S b) (am_ur h 68 (va_cpy (h 72) (h 68) k2 k4 k5)) _
                refine wp_run 2 (pc' := 15) (ls' := [.ref 74, .int 3, .int (nI k2), .int 1, .int (nI k4), .int (nI k5), .int 0, am_du, am_du]) (st' := [.int 0]) rfl ?_
                refine wp_if_t rfl (show (0 : Int32) = 0 from by decide) ?_
                refine wp_run 2 (pc' := 28) (ls' := [.ref 74, .int 3, .int (nI k2), .int 1, .int (nI k4), .int (nI k5), .int 0, .int 0, am_du]) (st' := []) rfl ?_
                by_cases hij : k2 < k4
                · have hp := lp_mvd (L := L) (xs := xs) (d := d) (ms := ms2) (b := b) (h := (am_ur h 68 (va_cpy (h 72) (h 68) k2 k4 k5))) (Q := Q2) (s := 3) (o := 1) (i := k2) (j := k4) (n := k5) (by omega) (by omega) (by omega) (by omega) hij (by omega) ?_ k5 0 am_du (by omega)
                  · rw [mv_d0] at hp; exact hp
                  · exact kk2 _ _ ⟨⟨n, c, t, tp, wt, s0, s1, p0, p1, H⟩, re_im_s hI, hE, (re_sh_mo hS0 (by decide) (by omega)), (re_sh_m hS3 hS1 (by omega) (by omega)), (re_sh_mo hS2 (by decide) (by omega)), (re_sh_mo hS3 (by decide) (by omega)), hT⟩
                · have hp := lp_mva (L := L) (xs := xs) (d := d) (ms := ms2) (b := b) (h := (am_ur h 68 (va_cpy (h 72) (h 68) k2 k4 k5))) (Q := Q2) (s := 3) (o := 1) (i := k2) (j := k4) (n := k5) (by omega) (by omega) (by omega) (by omega) hij (by omega) ?_ k5 0 am_du (by omega)
                  · rw [mv_a0] at hp; exact hp
                  · exact kk2 _ _ ⟨⟨n, c, t, tp, wt, s0, s1, p0, p1, H⟩, re_im_s hI, hE, (re_sh_mo hS0 (by decide) (by omega)), (re_sh_m hS3 hS1 (by omega) (by omega)), (re_sh_mo hS2 (by decide) (by omega)), (re_sh_mo hS3 (by decide) (by omega)), hT⟩
              · skip
                intro hno2
                show am_wp L xs _ _ _ _ 97 [.ref 0, .int 3, .int (nI k2), .int 1, .int x4, .int (nI k5), .ref 71, .ref 67] [.int 0] (am_S b) h _
                refine wp_if_f rfl (show ¬ (¬ (0 : Int32) = 0) from by decide) ?_
                refine wp_run 2 (pc' := 102) (ls' := [.ref 0, .int 3, .int (nI k2), .int 1, .int x4, .int (nI k5), .ref 71, .ref 67]) (st' := [.int 1, .ref 0]) rfl ?_
                refine wp_callV (o := 0) (as := [.int 1]) (rest := []) (els := [.ref 0, .int 1]) rfl rfl rfl rfl rfl rfl rfl rfl (by omega) ?_
                refine sp_refuse1 (by omega) ?_
                show am_wp L xs _ _ _ _ 105 [.ref 0, .int 3, .int (nI k2), .int 1, .int x4, .int (nI k5), .ref 71, .ref 67] [.int (-1000000001)] (am_S b) (am_u h 73 1 (h 73 1 + 1)) _
                refine wp_ret rfl ?_
                refine kk _ _ _ (fun ms2 Q2 kk2 => ?_)
                refine wp_run 6 (pc' := 8) (ls' := [.ref 74, .int 3, .int (nI k2), .int 1, .int x4, .int (nI k5), am_du, am_du, am_du]) (st' := [.int (nI k5), .int x4, .int 1, .int (nI k2), .int 3, .ref 74]) rfl ?_
                refine wp_callV (o := 74) (as := [.int 3, .int (nI k2), .int 1, .int x4, .int (nI k5)]) (rest := []) (els := [.ref 74, .int 3, .int (nI k2), .int 1, .int x4, .int (nI k5), am_du]) rfl rfl rfl rfl rfl rfl rfl rfl (by omega) ?_
                refine wp_run 1 (pc' := 1) (ls' := [.ref 74, .int 3, .int (nI k2), .int 1, .int x4, .int (nI k5), am_du]) (st' := [.int 3]) rfl ?_
                refine wp_callS (as := [.int 3]) (rest := []) (els := [.int 3]) rfl rfl rfl rfl rfl rfl rfl rfl (by omega) ?_
                refine sp_m_isSheet (by omega) (fun _ _ _ => ?_) (fun q => absurd rfl (q 3 (by omega)))
                show am_wp L xs _ _ _ _ 4 [.ref 74, .int 3, .int (nI k2), .int 1, .int x4, .int (nI k5), am_du] [.int 1] (am_S b) (am_u h 73 1 (h 73 1 + 1)) _
                refine wp_if_f rfl (show ¬ ((1 : Int32) = 0) from by decide) ?_
                refine wp_run 1 (pc' := 8) (ls' := [.ref 74, .int 3, .int (nI k2), .int 1, .int x4, .int (nI k5), am_du]) (st' := [.int 1]) rfl ?_
                refine wp_callS (as := [.int 1]) (rest := []) (els := [.int 1]) rfl rfl rfl rfl rfl rfl rfl rfl (by omega) ?_
                refine sp_m_isSheet (by omega) (fun _ _ _ => ?_) (fun q => absurd rfl (q 1 (by omega)))
                show am_wp L xs _ _ _ _ 11 [.ref 74, .int 3, .int (nI k2), .int 1, .int x4, .int (nI k5), am_du] [.int 1] (am_S b) (am_u h 73 1 (h 73 1 + 1)) _
                refine wp_if_t rfl (show ¬ (1 : Int32) = 0 from by decide) ?_
                refine wp_run 1 (pc' := 18) (ls' := [.ref 74, .int 3, .int (nI k2), .int 1, .int x4, .int (nI k5), am_du]) (st' := [.ref 74]) rfl ?_
                refine wp_getr 78 rfl rfl rfl ?_
                refine wp_run 1 (pc' := 22) (ls' := [.ref 74, .int 3, .int (nI k2), .int 1, .int x4, .int (nI k5), am_du]) (st' := [.int 3, .ref 78]) rfl ?_
                refine wp_ald (i := 3) (h 78 3) rfl rfl rfl rfl (by decide) rfl ?_
                refine wp_if_f rfl (show ¬ ((h 78 3) = 0) from (fun q => cqz0 (hob.trans q))) ?_
                refine wp_run 1 (pc' := 27) (ls' := [.ref 74, .int 3, .int (nI k2), .int 1, .int x4, .int (nI k5), am_du]) (st' := [.ref 74]) rfl ?_
                refine wp_getr 78 rfl rfl rfl ?_
                refine wp_run 1 (pc' := 31) (ls' := [.ref 74, .int 3, .int (nI k2), .int 1, .int x4, .int (nI k5), am_du]) (st' := [.int 1, .ref 78]) rfl ?_
                refine wp_ald (i := 1) (h 78 1) rfl rfl rfl rfl (by decide) rfl ?_
                refine wp_if_t rfl (show ¬ (h 78 1) = 0 from (fun q => cqz1 (hobB.trans q))) ?_
                refine wp_run 1 (pc' := 39) (ls' := [.ref 74, .int 3, .int (nI k2), .int 1, .int x4, .int (nI k5), am_du]) (st' := [.ref 74]) rfl ?_
                refine wp_getr 78 rfl rfl rfl ?_
                refine wp_run 1 (pc' := 43) (ls' := [.ref 74, .int 3, .int (nI k2), .int 1, .int x4, .int (nI k5), am_du]) (st' := [.int 3, .ref 78]) rfl ?_
                refine wp_ald (i := 3) (h 78 3) rfl rfl rfl rfl (by decide) rfl ?_
                refine wp_run 1 (pc' := 45) (ls' := [.ref 74, .int 3, .int (nI k2), .int 1, .int x4, .int (nI k5), am_du]) (st' := [.ref 74, .int (h 78 3)]) rfl ?_
                refine wp_getr 78 rfl rfl rfl ?_
                refine wp_run 1 (pc' := 49) (ls' := [.ref 74, .int 3, .int (nI k2), .int 1, .int x4, .int (nI k5), am_du]) (st' := [.int 1, .ref 78, .int (h 78 3)]) rfl ?_
                refine wp_ald (i := 1) (h 78 1) rfl rfl rfl rfl (by decide) rfl ?_
                refine wp_icmp_t rfl (show (h 78 3) = (h 78 1) from (hob.symm.trans (cqe.trans hobB))) ?_
                refine wp_run 1 (pc' := 58) (ls' := [.ref 74, .int 3, .int (nI k2), .int 1, .int x4, .int (nI k5), am_du]) (st' := [.int (nI k5)]) rfl ?_
                refine wp_if_f rfl (show ¬ ((nI k5) < 0) from mt (nI_ltI (a := k5) (b := 0) (by omega) (by omega)).mp (by omega)) ?_
                refine wp_run 1 (pc' := 62) (ls' := [.ref 74, .int 3, .int (nI k2), .int 1, .int x4, .int (nI k5), am_du]) (st' := [.int (nI k2)]) rfl ?_
                refine wp_if_f rfl (show ¬ ((nI k2) < 0) from mt (nI_ltI (a := k2) (b := 0) (by omega) (by omega)).mp (by omega)) ?_
                refine wp_run 1 (pc' := 67) (ls' := [.ref 74, .int 3, .int (nI k2), .int 1, .int x4, .int (nI k5), am_du]) (st' := [.int x4]) rfl ?_
                refine wp_if rfl (fun (cq67 : x4 < 0) => ?_) (fun (cq67 : ¬ (x4 < 0)) => ?_)
                · skip
                  refine wp_run 3 (pc' := 106) (ls' := [.ref 74, .int 3, .int (nI k2), .int 1, .int x4, .int (nI k5), .int 0]) (st' := [.int 0]) rfl ?_
                  refine wp_if_t rfl (show (0 : Int32) = 0 from by decide) ?_
                  refine wp_run 1 (pc' := 115) (ls' := [.ref 74, .int 3, .int (nI k2), .int 1, .int x4, .int (nI k5), .int 0]) (st' := [.int (-1000000001)]) rfl ?_
                  refine wp_ret rfl ?_
                  show am_wp L xs _ _ _ _ 11 [.ref 74, .int 3, .int (nI k2), .int 1, .int x4, .int (nI k5), am_du, am_du, am_du] [.int (-1000000001)] (am_S b) (am_u h 73 1 (h 73 1 + 1)) _
                  refine wp_run 2 (pc' := 15) (ls' := [.ref 74, .int 3, .int (nI k2), .int 1, .int x4, .int (nI k5), .int (-1000000001), am_du, am_du]) (st' := [.int (-1000000001)]) rfl ?_
                  refine wp_if_f rfl (show ¬ (((-1000000001) : Int32) = 0) from by decide) ?_
                  refine wp_run 2 (pc' := 21) (ls' := [.ref 74, .int 3, .int (nI k2), .int 1, .int x4, .int (nI k5), .int (-1000000001), am_du, am_du]) (st' := [.int (-1000000001), .ref 74]) rfl ?_
                  refine wp_callV (o := 74) (as := [.int (-1000000001)]) (rest := []) (els := [.ref 74, .int (-1000000001)]) rfl rfl rfl rfl rfl rfl rfl rfl (by omega) ?_
                  refine sp_error1 ?_
                  show am_wp L xs _ _ _ _ 24 [.ref 74, .int 3, .int (nI k2), .int 1, .int x4, .int (nI k5), .int (-1000000001), am_du, am_du] [.int (-1000000001)] (am_S b) (am_u (am_u h 73 1 (h 73 1 + 1)) 77 1 ((am_u h 73 1 (h 73 1 + 1)) 77 1 + 1)) _
                  refine wp_ret rfl ?_
                  exact kk2 _ _ (re_err1 hR)
                · skip
                  obtain ⟨k4, hk4, ek4⟩ := pu_nonneg (Int32.not_lt.mp cq67)
                  subst ek4
                  refine wp_run 2 (pc' := 73) (ls' := [.ref 74, .int 3, .int (nI k2), .int 1, .int (nI k4), .int (nI k5), am_du]) (st' := [.ref 74, .int (nI k5)]) rfl ?_
                  refine wp_getr 79 rfl rfl rfl ?_
                  refine wp_run 1 (pc' := 77) (ls' := [.ref 74, .int 3, .int (nI k2), .int 1, .int (nI k4), .int (nI k5), am_du]) (st' := [.int 3, .ref 79, .int (nI k5)]) rfl ?_
                  refine wp_ald (i := 3) (nI l) hz2 rfl rfl rfl (by decide) rfl ?_
                  refine wp_run 2 (pc' := 80) (ls' := [.ref 74, .int 3, .int (nI k2), .int 1, .int (nI k4), .int (nI k5), am_du]) (st' := [.int ((nI l) - (nI k2)), .int (nI k5)]) rfl ?_
                  refine wp_icmp_f rfl (show ¬ (((nI l) - (nI k2)) < (nI k5)) from Int32.not_lt.mpr ((pu_suble (by omega) (by omega) hl24).mpr (by omega))) ?_
                  refine wp_run 2 (pc' := 86) (ls' := [.ref 74, .int 3, .int (nI k2), .int 1, .int (nI k4), .int (nI k5), am_du]) (st' := [.ref 74, .int (nI k5)]) rfl ?_
                  refine wp_getr 79 rfl rfl rfl ?_
                  refine wp_run 1 (pc' := 90) (ls' := [.ref 74, .int 3, .int (nI k2), .int 1, .int (nI k4), .int (nI k5), am_du]) (st' := [.int 1, .ref 79, .int (nI k5)]) rfl ?_
                  refine wp_ald (i := 1) (nI lB) hz2B rfl rfl rfl (by decide) rfl ?_
                  refine wp_run 2 (pc' := 94) (ls' := [.ref 74, .int 3, .int (nI k2), .int 1, .int (nI k4), .int (nI k5), am_du]) (st' := [.int ((nI lB) - (nI k4)), .int (nI k5)]) rfl ?_
                  refine wp_icmp_t rfl (show ((nI lB) - (nI k4)) < (nI k5) from Int32.not_le.mp (fun q => hno2 k4 k5 rfl rfl (by have := (pu_suble (by omega) (by omega) hl24B).mp q; omega))) ?_
                  refine wp_run 3 (pc' := 106) (ls' := [.ref 74, .int 3, .int (nI k2), .int 1, .int (nI k4), .int (nI k5), .int 0]) (st' := [.int 0]) rfl ?_
                  refine wp_if_t rfl (show (0 : Int32) = 0 from by decide) ?_
                  refine wp_run 1 (pc' := 115) (ls' := [.ref 74, .int 3, .int (nI k2), .int 1, .int (nI k4), .int (nI k5), .int 0]) (st' := [.int (-1000000001)]) rfl ?_
                  refine wp_ret rfl ?_
                  show am_wp L xs _ _ _ _ 11 [.ref 74, .int 3, .int (nI k2), .int 1, .int (nI k4), .int (nI k5), am_du, am_du, am_du] [.int (-1000000001)] (am_S b) (am_u h 73 1 (h 73 1 + 1)) _
                  refine wp_run 2 (pc' := 15) (ls' := [.ref 74, .int 3, .int (nI k2), .int 1, .int (nI k4), .int (nI k5), .int (-1000000001), am_du, am_du]) (st' := [.int (-1000000001)]) rfl ?_
                  refine wp_if_f rfl (show ¬ (((-1000000001) : Int32) = 0) from by decide) ?_
                  refine wp_run 2 (pc' := 21) (ls' := [.ref 74, .int 3, .int (nI k2), .int 1, .int (nI k4), .int (nI k5), .int (-1000000001), am_du, am_du]) (st' := [.int (-1000000001), .ref 74]) rfl ?_
                  refine wp_callV (o := 74) (as := [.int (-1000000001)]) (rest := []) (els := [.ref 74, .int (-1000000001)]) rfl rfl rfl rfl rfl rfl rfl rfl (by omega) ?_
                  refine sp_error1 ?_
                  show am_wp L xs _ _ _ _ 24 [.ref 74, .int 3, .int (nI k2), .int 1, .int (nI k4), .int (nI k5), .int (-1000000001), am_du, am_du] [.int (-1000000001)] (am_S b) (am_u (am_u h 73 1 (h 73 1 + 1)) 77 1 ((am_u h 73 1 (h 73 1 + 1)) 77 1 + 1)) _
                  refine wp_ret rfl ?_
                  exact kk2 _ _ (re_err1 hR)
            · skip
              intro hno1
              show am_wp L xs _ _ _ _ 85 [.ref 0, .int 3, .int x2, .int 1, .int x4, .int x5, .ref 71, .ref 67] [.int 0] (am_S b) h _
              refine wp_if_t rfl (show (0 : Int32) = 0 from by decide) ?_
              refine wp_run 2 (pc' := 102) (ls' := [.ref 0, .int 3, .int x2, .int 1, .int x4, .int x5, .ref 71, .ref 67]) (st' := [.int 1, .ref 0]) rfl ?_
              refine wp_callV (o := 0) (as := [.int 1]) (rest := []) (els := [.ref 0, .int 1]) rfl rfl rfl rfl rfl rfl rfl rfl (by omega) ?_
              refine sp_refuse1 (by omega) ?_
              show am_wp L xs _ _ _ _ 105 [.ref 0, .int 3, .int x2, .int 1, .int x4, .int x5, .ref 71, .ref 67] [.int (-1000000001)] (am_S b) (am_u h 73 1 (h 73 1 + 1)) _
              refine wp_ret rfl ?_
              refine kk _ _ _ (fun ms2 Q2 kk2 => ?_)
              refine wp_run 6 (pc' := 8) (ls' := [.ref 74, .int 3, .int x2, .int 1, .int x4, .int x5, am_du, am_du, am_du]) (st' := [.int x5, .int x4, .int 1, .int x2, .int 3, .ref 74]) rfl ?_
              refine wp_callV (o := 74) (as := [.int 3, .int x2, .int 1, .int x4, .int x5]) (rest := []) (els := [.ref 74, .int 3, .int x2, .int 1, .int x4, .int x5, am_du]) rfl rfl rfl rfl rfl rfl rfl rfl (by omega) ?_
              refine wp_run 1 (pc' := 1) (ls' := [.ref 74, .int 3, .int x2, .int 1, .int x4, .int x5, am_du]) (st' := [.int 3]) rfl ?_
              refine wp_callS (as := [.int 3]) (rest := []) (els := [.int 3]) rfl rfl rfl rfl rfl rfl rfl rfl (by omega) ?_
              refine sp_m_isSheet (by omega) (fun _ _ _ => ?_) (fun q => absurd rfl (q 3 (by omega)))
              show am_wp L xs _ _ _ _ 4 [.ref 74, .int 3, .int x2, .int 1, .int x4, .int x5, am_du] [.int 1] (am_S b) (am_u h 73 1 (h 73 1 + 1)) _
              refine wp_if_f rfl (show ¬ ((1 : Int32) = 0) from by decide) ?_
              refine wp_run 1 (pc' := 8) (ls' := [.ref 74, .int 3, .int x2, .int 1, .int x4, .int x5, am_du]) (st' := [.int 1]) rfl ?_
              refine wp_callS (as := [.int 1]) (rest := []) (els := [.int 1]) rfl rfl rfl rfl rfl rfl rfl rfl (by omega) ?_
              refine sp_m_isSheet (by omega) (fun _ _ _ => ?_) (fun q => absurd rfl (q 1 (by omega)))
              show am_wp L xs _ _ _ _ 11 [.ref 74, .int 3, .int x2, .int 1, .int x4, .int x5, am_du] [.int 1] (am_S b) (am_u h 73 1 (h 73 1 + 1)) _
              refine wp_if_t rfl (show ¬ (1 : Int32) = 0 from by decide) ?_
              refine wp_run 1 (pc' := 18) (ls' := [.ref 74, .int 3, .int x2, .int 1, .int x4, .int x5, am_du]) (st' := [.ref 74]) rfl ?_
              refine wp_getr 78 rfl rfl rfl ?_
              refine wp_run 1 (pc' := 22) (ls' := [.ref 74, .int 3, .int x2, .int 1, .int x4, .int x5, am_du]) (st' := [.int 3, .ref 78]) rfl ?_
              refine wp_ald (i := 3) (h 78 3) rfl rfl rfl rfl (by decide) rfl ?_
              refine wp_if_f rfl (show ¬ ((h 78 3) = 0) from (fun q => cqz0 (hob.trans q))) ?_
              refine wp_run 1 (pc' := 27) (ls' := [.ref 74, .int 3, .int x2, .int 1, .int x4, .int x5, am_du]) (st' := [.ref 74]) rfl ?_
              refine wp_getr 78 rfl rfl rfl ?_
              refine wp_run 1 (pc' := 31) (ls' := [.ref 74, .int 3, .int x2, .int 1, .int x4, .int x5, am_du]) (st' := [.int 1, .ref 78]) rfl ?_
              refine wp_ald (i := 1) (h 78 1) rfl rfl rfl rfl (by decide) rfl ?_
              refine wp_if_t rfl (show ¬ (h 78 1) = 0 from (fun q => cqz1 (hobB.trans q))) ?_
              refine wp_run 1 (pc' := 39) (ls' := [.ref 74, .int 3, .int x2, .int 1, .int x4, .int x5, am_du]) (st' := [.ref 74]) rfl ?_
              refine wp_getr 78 rfl rfl rfl ?_
              refine wp_run 1 (pc' := 43) (ls' := [.ref 74, .int 3, .int x2, .int 1, .int x4, .int x5, am_du]) (st' := [.int 3, .ref 78]) rfl ?_
              refine wp_ald (i := 3) (h 78 3) rfl rfl rfl rfl (by decide) rfl ?_
              refine wp_run 1 (pc' := 45) (ls' := [.ref 74, .int 3, .int x2, .int 1, .int x4, .int x5, am_du]) (st' := [.ref 74, .int (h 78 3)]) rfl ?_
              refine wp_getr 78 rfl rfl rfl ?_
              refine wp_run 1 (pc' := 49) (ls' := [.ref 74, .int 3, .int x2, .int 1, .int x4, .int x5, am_du]) (st' := [.int 1, .ref 78, .int (h 78 3)]) rfl ?_
              refine wp_ald (i := 1) (h 78 1) rfl rfl rfl rfl (by decide) rfl ?_
              refine wp_icmp_t rfl (show (h 78 3) = (h 78 1) from (hob.symm.trans (cqe.trans hobB))) ?_
              refine wp_run 1 (pc' := 58) (ls' := [.ref 74, .int 3, .int x2, .int 1, .int x4, .int x5, am_du]) (st' := [.int x5]) rfl ?_
              refine wp_if rfl (fun (cq58 : x5 < 0) => ?_) (fun (cq58 : ¬ (x5 < 0)) => ?_)
              · skip
                refine wp_run 3 (pc' := 106) (ls' := [.ref 74, .int 3, .int x2, .int 1, .int x4, .int x5, .int 0]) (st' := [.int 0]) rfl ?_
                refine wp_if_t rfl (show (0 : Int32) = 0 from by decide) ?_
                refine wp_run 1 (pc' := 115) (ls' := [.ref 74, .int 3, .int x2, .int 1, .int x4, .int x5, .int 0]) (st' := [.int (-1000000001)]) rfl ?_
                refine wp_ret rfl ?_
                show am_wp L xs _ _ _ _ 11 [.ref 74, .int 3, .int x2, .int 1, .int x4, .int x5, am_du, am_du, am_du] [.int (-1000000001)] (am_S b) (am_u h 73 1 (h 73 1 + 1)) _
                refine wp_run 2 (pc' := 15) (ls' := [.ref 74, .int 3, .int x2, .int 1, .int x4, .int x5, .int (-1000000001), am_du, am_du]) (st' := [.int (-1000000001)]) rfl ?_
                refine wp_if_f rfl (show ¬ (((-1000000001) : Int32) = 0) from by decide) ?_
                refine wp_run 2 (pc' := 21) (ls' := [.ref 74, .int 3, .int x2, .int 1, .int x4, .int x5, .int (-1000000001), am_du, am_du]) (st' := [.int (-1000000001), .ref 74]) rfl ?_
                refine wp_callV (o := 74) (as := [.int (-1000000001)]) (rest := []) (els := [.ref 74, .int (-1000000001)]) rfl rfl rfl rfl rfl rfl rfl rfl (by omega) ?_
                refine sp_error1 ?_
                show am_wp L xs _ _ _ _ 24 [.ref 74, .int 3, .int x2, .int 1, .int x4, .int x5, .int (-1000000001), am_du, am_du] [.int (-1000000001)] (am_S b) (am_u (am_u h 73 1 (h 73 1 + 1)) 77 1 ((am_u h 73 1 (h 73 1 + 1)) 77 1 + 1)) _
                refine wp_ret rfl ?_
                exact kk2 _ _ (re_err1 hR)
              · skip
                obtain ⟨k5, hk5, ek5⟩ := pu_nonneg (Int32.not_lt.mp cq58)
                subst ek5
                refine wp_run 1 (pc' := 62) (ls' := [.ref 74, .int 3, .int x2, .int 1, .int x4, .int (nI k5), am_du]) (st' := [.int x2]) rfl ?_
                refine wp_if rfl (fun (cq62 : x2 < 0) => ?_) (fun (cq62 : ¬ (x2 < 0)) => ?_)
                · skip
                  refine wp_run 3 (pc' := 106) (ls' := [.ref 74, .int 3, .int x2, .int 1, .int x4, .int (nI k5), .int 0]) (st' := [.int 0]) rfl ?_
                  refine wp_if_t rfl (show (0 : Int32) = 0 from by decide) ?_
                  refine wp_run 1 (pc' := 115) (ls' := [.ref 74, .int 3, .int x2, .int 1, .int x4, .int (nI k5), .int 0]) (st' := [.int (-1000000001)]) rfl ?_
                  refine wp_ret rfl ?_
                  show am_wp L xs _ _ _ _ 11 [.ref 74, .int 3, .int x2, .int 1, .int x4, .int (nI k5), am_du, am_du, am_du] [.int (-1000000001)] (am_S b) (am_u h 73 1 (h 73 1 + 1)) _
                  refine wp_run 2 (pc' := 15) (ls' := [.ref 74, .int 3, .int x2, .int 1, .int x4, .int (nI k5), .int (-1000000001), am_du, am_du]) (st' := [.int (-1000000001)]) rfl ?_
                  refine wp_if_f rfl (show ¬ (((-1000000001) : Int32) = 0) from by decide) ?_
                  refine wp_run 2 (pc' := 21) (ls' := [.ref 74, .int 3, .int x2, .int 1, .int x4, .int (nI k5), .int (-1000000001), am_du, am_du]) (st' := [.int (-1000000001), .ref 74]) rfl ?_
                  refine wp_callV (o := 74) (as := [.int (-1000000001)]) (rest := []) (els := [.ref 74, .int (-1000000001)]) rfl rfl rfl rfl rfl rfl rfl rfl (by omega) ?_
                  refine sp_error1 ?_
                  show am_wp L xs _ _ _ _ 24 [.ref 74, .int 3, .int x2, .int 1, .int x4, .int (nI k5), .int (-1000000001), am_du, am_du] [.int (-1000000001)] (am_S b) (am_u (am_u h 73 1 (h 73 1 + 1)) 77 1 ((am_u h 73 1 (h 73 1 + 1)) 77 1 + 1)) _
                  refine wp_ret rfl ?_
                  exact kk2 _ _ (re_err1 hR)
                · skip
                  obtain ⟨k2, hk2, ek2⟩ := pu_nonneg (Int32.not_lt.mp cq62)
                  subst ek2
                  refine wp_run 1 (pc' := 67) (ls' := [.ref 74, .int 3, .int (nI k2), .int 1, .int x4, .int (nI k5), am_du]) (st' := [.int x4]) rfl ?_
                  refine wp_if rfl (fun (cq67 : x4 < 0) => ?_) (fun (cq67 : ¬ (x4 < 0)) => ?_)
                  · skip
                    refine wp_run 3 (pc' := 106) (ls' := [.ref 74, .int 3, .int (nI k2), .int 1, .int x4, .int (nI k5), .int 0]) (st' := [.int 0]) rfl ?_
                    refine wp_if_t rfl (show (0 : Int32) = 0 from by decide) ?_
                    refine wp_run 1 (pc' := 115) (ls' := [.ref 74, .int 3, .int (nI k2), .int 1, .int x4, .int (nI k5), .int 0]) (st' := [.int (-1000000001)]) rfl ?_
                    refine wp_ret rfl ?_
                    show am_wp L xs _ _ _ _ 11 [.ref 74, .int 3, .int (nI k2), .int 1, .int x4, .int (nI k5), am_du, am_du, am_du] [.int (-1000000001)] (am_S b) (am_u h 73 1 (h 73 1 + 1)) _
                    refine wp_run 2 (pc' := 15) (ls' := [.ref 74, .int 3, .int (nI k2), .int 1, .int x4, .int (nI k5), .int (-1000000001), am_du, am_du]) (st' := [.int (-1000000001)]) rfl ?_
                    refine wp_if_f rfl (show ¬ (((-1000000001) : Int32) = 0) from by decide) ?_
                    refine wp_run 2 (pc' := 21) (ls' := [.ref 74, .int 3, .int (nI k2), .int 1, .int x4, .int (nI k5), .int (-1000000001), am_du, am_du]) (st' := [.int (-1000000001), .ref 74]) rfl ?_
                    refine wp_callV (o := 74) (as := [.int (-1000000001)]) (rest := []) (els := [.ref 74, .int (-1000000001)]) rfl rfl rfl rfl rfl rfl rfl rfl (by omega) ?_
                    refine sp_error1 ?_
                    show am_wp L xs _ _ _ _ 24 [.ref 74, .int 3, .int (nI k2), .int 1, .int x4, .int (nI k5), .int (-1000000001), am_du, am_du] [.int (-1000000001)] (am_S b) (am_u (am_u h 73 1 (h 73 1 + 1)) 77 1 ((am_u h 73 1 (h 73 1 + 1)) 77 1 + 1)) _
                    refine wp_ret rfl ?_
                    exact kk2 _ _ (re_err1 hR)
                  · skip
                    obtain ⟨k4, hk4, ek4⟩ := pu_nonneg (Int32.not_lt.mp cq67)
                    subst ek4
                    refine wp_run 2 (pc' := 73) (ls' := [.ref 74, .int 3, .int (nI k2), .int 1, .int (nI k4), .int (nI k5), am_du]) (st' := [.ref 74, .int (nI k5)]) rfl ?_
                    refine wp_getr 79 rfl rfl rfl ?_
                    refine wp_run 1 (pc' := 77) (ls' := [.ref 74, .int 3, .int (nI k2), .int 1, .int (nI k4), .int (nI k5), am_du]) (st' := [.int 3, .ref 79, .int (nI k5)]) rfl ?_
                    refine wp_ald (i := 3) (nI l) hz2 rfl rfl rfl (by decide) rfl ?_
                    refine wp_run 2 (pc' := 80) (ls' := [.ref 74, .int 3, .int (nI k2), .int 1, .int (nI k4), .int (nI k5), am_du]) (st' := [.int ((nI l) - (nI k2)), .int (nI k5)]) rfl ?_
                    refine wp_icmp_t rfl (show ((nI l) - (nI k2)) < (nI k5) from Int32.not_le.mp (fun q => hno1 k2 k5 rfl rfl (by have := (pu_suble (by omega) (by omega) hl24).mp q; omega))) ?_
                    refine wp_run 3 (pc' := 106) (ls' := [.ref 74, .int 3, .int (nI k2), .int 1, .int (nI k4), .int (nI k5), .int 0]) (st' := [.int 0]) rfl ?_
                    refine wp_if_t rfl (show (0 : Int32) = 0 from by decide) ?_
                    refine wp_run 1 (pc' := 115) (ls' := [.ref 74, .int 3, .int (nI k2), .int 1, .int (nI k4), .int (nI k5), .int 0]) (st' := [.int (-1000000001)]) rfl ?_
                    refine wp_ret rfl ?_
                    show am_wp L xs _ _ _ _ 11 [.ref 74, .int 3, .int (nI k2), .int 1, .int (nI k4), .int (nI k5), am_du, am_du, am_du] [.int (-1000000001)] (am_S b) (am_u h 73 1 (h 73 1 + 1)) _
                    refine wp_run 2 (pc' := 15) (ls' := [.ref 74, .int 3, .int (nI k2), .int 1, .int (nI k4), .int (nI k5), .int (-1000000001), am_du, am_du]) (st' := [.int (-1000000001)]) rfl ?_
                    refine wp_if_f rfl (show ¬ (((-1000000001) : Int32) = 0) from by decide) ?_
                    refine wp_run 2 (pc' := 21) (ls' := [.ref 74, .int 3, .int (nI k2), .int 1, .int (nI k4), .int (nI k5), .int (-1000000001), am_du, am_du]) (st' := [.int (-1000000001), .ref 74]) rfl ?_
                    refine wp_callV (o := 74) (as := [.int (-1000000001)]) (rest := []) (els := [.ref 74, .int (-1000000001)]) rfl rfl rfl rfl rfl rfl rfl rfl (by omega) ?_
                    refine sp_error1 ?_
                    show am_wp L xs _ _ _ _ 24 [.ref 74, .int 3, .int (nI k2), .int 1, .int (nI k4), .int (nI k5), .int (-1000000001), am_du, am_du] [.int (-1000000001)] (am_S b) (am_u (am_u h 73 1 (h 73 1 + 1)) 77 1 ((am_u h 73 1 (h 73 1 + 1)) 77 1 + 1)) _
                    refine wp_ret rfl ?_
                    exact kk2 _ _ (re_err1 hR)
          · skip
            refine wp_run 2 (pc' := 73) (ls' := [.ref 0, .int 3, .int x2, .int 1, .int x4, .int x5, .ref 71, .ref 67]) (st' := [.int 5, .ref 0]) rfl ?_
            refine wp_callV (o := 0) (as := [.int 5]) (rest := []) (els := [.ref 0, .int 5]) rfl rfl rfl rfl rfl rfl rfl rfl (by omega) ?_
            refine sp_refuse5 (by omega) ?_
            show am_wp L xs _ _ _ _ 76 [.ref 0, .int 3, .int x2, .int 1, .int x4, .int x5, .ref 71, .ref 67] [.int (-1000000005)] (am_S b) (am_u h 73 5 (h 73 5 + 1)) _
            refine wp_ret rfl ?_
            refine kk _ _ _ (fun ms2 Q2 kk2 => ?_)
            refine wp_run 6 (pc' := 8) (ls' := [.ref 74, .int 3, .int x2, .int 1, .int x4, .int x5, am_du, am_du, am_du]) (st' := [.int x5, .int x4, .int 1, .int x2, .int 3, .ref 74]) rfl ?_
            refine wp_callV (o := 74) (as := [.int 3, .int x2, .int 1, .int x4, .int x5]) (rest := []) (els := [.ref 74, .int 3, .int x2, .int 1, .int x4, .int x5, am_du]) rfl rfl rfl rfl rfl rfl rfl rfl (by omega) ?_
            refine wp_run 1 (pc' := 1) (ls' := [.ref 74, .int 3, .int x2, .int 1, .int x4, .int x5, am_du]) (st' := [.int 3]) rfl ?_
            refine wp_callS (as := [.int 3]) (rest := []) (els := [.int 3]) rfl rfl rfl rfl rfl rfl rfl rfl (by omega) ?_
            refine sp_m_isSheet (by omega) (fun _ _ _ => ?_) (fun q => absurd rfl (q 3 (by omega)))
            show am_wp L xs _ _ _ _ 4 [.ref 74, .int 3, .int x2, .int 1, .int x4, .int x5, am_du] [.int 1] (am_S b) (am_u h 73 5 (h 73 5 + 1)) _
            refine wp_if_f rfl (show ¬ ((1 : Int32) = 0) from by decide) ?_
            refine wp_run 1 (pc' := 8) (ls' := [.ref 74, .int 3, .int x2, .int 1, .int x4, .int x5, am_du]) (st' := [.int 1]) rfl ?_
            refine wp_callS (as := [.int 1]) (rest := []) (els := [.int 1]) rfl rfl rfl rfl rfl rfl rfl rfl (by omega) ?_
            refine sp_m_isSheet (by omega) (fun _ _ _ => ?_) (fun q => absurd rfl (q 1 (by omega)))
            show am_wp L xs _ _ _ _ 11 [.ref 74, .int 3, .int x2, .int 1, .int x4, .int x5, am_du] [.int 1] (am_S b) (am_u h 73 5 (h 73 5 + 1)) _
            refine wp_if_t rfl (show ¬ (1 : Int32) = 0 from by decide) ?_
            refine wp_run 1 (pc' := 18) (ls' := [.ref 74, .int 3, .int x2, .int 1, .int x4, .int x5, am_du]) (st' := [.ref 74]) rfl ?_
            refine wp_getr 78 rfl rfl rfl ?_
            refine wp_run 1 (pc' := 22) (ls' := [.ref 74, .int 3, .int x2, .int 1, .int x4, .int x5, am_du]) (st' := [.int 3, .ref 78]) rfl ?_
            refine wp_ald (i := 3) (h 78 3) rfl rfl rfl rfl (by decide) rfl ?_
            refine wp_if_f rfl (show ¬ ((h 78 3) = 0) from (fun q => cqz0 (hob.trans q))) ?_
            refine wp_run 1 (pc' := 27) (ls' := [.ref 74, .int 3, .int x2, .int 1, .int x4, .int x5, am_du]) (st' := [.ref 74]) rfl ?_
            refine wp_getr 78 rfl rfl rfl ?_
            refine wp_run 1 (pc' := 31) (ls' := [.ref 74, .int 3, .int x2, .int 1, .int x4, .int x5, am_du]) (st' := [.int 1, .ref 78]) rfl ?_
            refine wp_ald (i := 1) (h 78 1) rfl rfl rfl rfl (by decide) rfl ?_
            refine wp_if_t rfl (show ¬ (h 78 1) = 0 from (fun q => cqz1 (hobB.trans q))) ?_
            refine wp_run 1 (pc' := 39) (ls' := [.ref 74, .int 3, .int x2, .int 1, .int x4, .int x5, am_du]) (st' := [.ref 74]) rfl ?_
            refine wp_getr 78 rfl rfl rfl ?_
            refine wp_run 1 (pc' := 43) (ls' := [.ref 74, .int 3, .int x2, .int 1, .int x4, .int x5, am_du]) (st' := [.int 3, .ref 78]) rfl ?_
            refine wp_ald (i := 3) (h 78 3) rfl rfl rfl rfl (by decide) rfl ?_
            refine wp_run 1 (pc' := 45) (ls' := [.ref 74, .int 3, .int x2, .int 1, .int x4, .int x5, am_du]) (st' := [.ref 74, .int (h 78 3)]) rfl ?_
            refine wp_getr 78 rfl rfl rfl ?_
            refine wp_run 1 (pc' := 49) (ls' := [.ref 74, .int 3, .int x2, .int 1, .int x4, .int x5, am_du]) (st' := [.int 1, .ref 78, .int (h 78 3)]) rfl ?_
            refine wp_ald (i := 1) (h 78 1) rfl rfl rfl rfl (by decide) rfl ?_
            refine wp_icmp_f rfl (show ¬ ((h 78 3) = (h 78 1)) from (fun q => cqe (hob.trans (q.trans hobB.symm)))) ?_
            refine wp_run 1 (pc' := 55) (ls' := [.ref 74, .int 3, .int x2, .int 1, .int x4, .int x5, am_du]) (st' := [.int (-1000000005)]) rfl ?_
            refine wp_ret rfl ?_
            show am_wp L xs _ _ _ _ 11 [.ref 74, .int 3, .int x2, .int 1, .int x4, .int x5, am_du, am_du, am_du] [.int (-1000000005)] (am_S b) (am_u h 73 5 (h 73 5 + 1)) _
            refine wp_run 2 (pc' := 15) (ls' := [.ref 74, .int 3, .int x2, .int 1, .int x4, .int x5, .int (-1000000005), am_du, am_du]) (st' := [.int (-1000000005)]) rfl ?_
            refine wp_if_f rfl (show ¬ (((-1000000005) : Int32) = 0) from by decide) ?_
            refine wp_run 2 (pc' := 21) (ls' := [.ref 74, .int 3, .int x2, .int 1, .int x4, .int x5, .int (-1000000005), am_du, am_du]) (st' := [.int (-1000000005), .ref 74]) rfl ?_
            refine wp_callV (o := 74) (as := [.int (-1000000005)]) (rest := []) (els := [.ref 74, .int (-1000000005)]) rfl rfl rfl rfl rfl rfl rfl rfl (by omega) ?_
            refine sp_error5 ?_
            show am_wp L xs _ _ _ _ 24 [.ref 74, .int 3, .int x2, .int 1, .int x4, .int x5, .int (-1000000005), am_du, am_du] [.int (-1000000005)] (am_S b) (am_u (am_u h 73 5 (h 73 5 + 1)) 77 5 ((am_u h 73 5 (h 73 5 + 1)) 77 5 + 1)) _
            refine wp_ret rfl ?_
            exact kk2 _ _ (re_err5 hR)
        · skip
          replace cqz1 := Decidable.not_not.mp cqz1
          refine wp_run 2 (pc' := 12) (ls' := [.ref 67]) (st' := [.int 1]) rfl ?_
          refine wp_retz rfl (Or.inr rfl) ?_
          show am_wp L xs _ _ _ _ 49 [.ref 0, .int 3, .int x2, .int 1, .int x4, .int x5, .ref 71, .ref 67] [.int 1] (am_S b) h _
          refine wp_if_f rfl (show ¬ ((1 : Int32) = 0) from by decide) ?_
          refine wp_run 2 (pc' := 54) (ls' := [.ref 0, .int 3, .int x2, .int 1, .int x4, .int x5, .ref 71, .ref 67]) (st' := [.int 2, .ref 0]) rfl ?_
          refine wp_callV (o := 0) (as := [.int 2]) (rest := []) (els := [.ref 0, .int 2]) rfl rfl rfl rfl rfl rfl rfl rfl (by omega) ?_
          refine sp_refuse2 (by omega) ?_
          show am_wp L xs _ _ _ _ 57 [.ref 0, .int 3, .int x2, .int 1, .int x4, .int x5, .ref 71, .ref 67] [.int (-1000000002)] (am_S b) (am_u h 73 2 (h 73 2 + 1)) _
          refine wp_ret rfl ?_
          refine kk _ _ _ (fun ms2 Q2 kk2 => ?_)
          refine wp_run 6 (pc' := 8) (ls' := [.ref 74, .int 3, .int x2, .int 1, .int x4, .int x5, am_du, am_du, am_du]) (st' := [.int x5, .int x4, .int 1, .int x2, .int 3, .ref 74]) rfl ?_
          refine wp_callV (o := 74) (as := [.int 3, .int x2, .int 1, .int x4, .int x5]) (rest := []) (els := [.ref 74, .int 3, .int x2, .int 1, .int x4, .int x5, am_du]) rfl rfl rfl rfl rfl rfl rfl rfl (by omega) ?_
          refine wp_run 1 (pc' := 1) (ls' := [.ref 74, .int 3, .int x2, .int 1, .int x4, .int x5, am_du]) (st' := [.int 3]) rfl ?_
          refine wp_callS (as := [.int 3]) (rest := []) (els := [.int 3]) rfl rfl rfl rfl rfl rfl rfl rfl (by omega) ?_
          refine sp_m_isSheet (by omega) (fun _ _ _ => ?_) (fun q => absurd rfl (q 3 (by omega)))
          show am_wp L xs _ _ _ _ 4 [.ref 74, .int 3, .int x2, .int 1, .int x4, .int x5, am_du] [.int 1] (am_S b) (am_u h 73 2 (h 73 2 + 1)) _
          refine wp_if_f rfl (show ¬ ((1 : Int32) = 0) from by decide) ?_
          refine wp_run 1 (pc' := 8) (ls' := [.ref 74, .int 3, .int x2, .int 1, .int x4, .int x5, am_du]) (st' := [.int 1]) rfl ?_
          refine wp_callS (as := [.int 1]) (rest := []) (els := [.int 1]) rfl rfl rfl rfl rfl rfl rfl rfl (by omega) ?_
          refine sp_m_isSheet (by omega) (fun _ _ _ => ?_) (fun q => absurd rfl (q 1 (by omega)))
          show am_wp L xs _ _ _ _ 11 [.ref 74, .int 3, .int x2, .int 1, .int x4, .int x5, am_du] [.int 1] (am_S b) (am_u h 73 2 (h 73 2 + 1)) _
          refine wp_if_t rfl (show ¬ (1 : Int32) = 0 from by decide) ?_
          refine wp_run 1 (pc' := 18) (ls' := [.ref 74, .int 3, .int x2, .int 1, .int x4, .int x5, am_du]) (st' := [.ref 74]) rfl ?_
          refine wp_getr 78 rfl rfl rfl ?_
          refine wp_run 1 (pc' := 22) (ls' := [.ref 74, .int 3, .int x2, .int 1, .int x4, .int x5, am_du]) (st' := [.int 3, .ref 78]) rfl ?_
          refine wp_ald (i := 3) (h 78 3) rfl rfl rfl rfl (by decide) rfl ?_
          refine wp_if_f rfl (show ¬ ((h 78 3) = 0) from (fun q => cqz0 (hob.trans q))) ?_
          refine wp_run 1 (pc' := 27) (ls' := [.ref 74, .int 3, .int x2, .int 1, .int x4, .int x5, am_du]) (st' := [.ref 74]) rfl ?_
          refine wp_getr 78 rfl rfl rfl ?_
          refine wp_run 1 (pc' := 31) (ls' := [.ref 74, .int 3, .int x2, .int 1, .int x4, .int x5, am_du]) (st' := [.int 1, .ref 78]) rfl ?_
          refine wp_ald (i := 1) (h 78 1) rfl rfl rfl rfl (by decide) rfl ?_
          refine wp_if_f rfl (show ¬ (¬ (h 78 1) = 0) from (fun q => q (hobB.symm.trans cqz1))) ?_
          refine wp_run 1 (pc' := 37) (ls' := [.ref 74, .int 3, .int x2, .int 1, .int x4, .int x5, am_du]) (st' := [.int (-1000000002)]) rfl ?_
          refine wp_ret rfl ?_
          show am_wp L xs _ _ _ _ 11 [.ref 74, .int 3, .int x2, .int 1, .int x4, .int x5, am_du, am_du, am_du] [.int (-1000000002)] (am_S b) (am_u h 73 2 (h 73 2 + 1)) _
          refine wp_run 2 (pc' := 15) (ls' := [.ref 74, .int 3, .int x2, .int 1, .int x4, .int x5, .int (-1000000002), am_du, am_du]) (st' := [.int (-1000000002)]) rfl ?_
          refine wp_if_f rfl (show ¬ (((-1000000002) : Int32) = 0) from by decide) ?_
          refine wp_run 2 (pc' := 21) (ls' := [.ref 74, .int 3, .int x2, .int 1, .int x4, .int x5, .int (-1000000002), am_du, am_du]) (st' := [.int (-1000000002), .ref 74]) rfl ?_
          refine wp_callV (o := 74) (as := [.int (-1000000002)]) (rest := []) (els := [.ref 74, .int (-1000000002)]) rfl rfl rfl rfl rfl rfl rfl rfl (by omega) ?_
          refine sp_error2 ?_
          show am_wp L xs _ _ _ _ 24 [.ref 74, .int 3, .int x2, .int 1, .int x4, .int x5, .int (-1000000002), am_du, am_du] [.int (-1000000002)] (am_S b) (am_u (am_u h 73 2 (h 73 2 + 1)) 77 2 ((am_u h 73 2 (h 73 2 + 1)) 77 2 + 1)) _
          refine wp_ret rfl ?_
          exact kk2 _ _ (re_err2 hR)
      · skip
        replace cqz0 := Decidable.not_not.mp cqz0
        refine wp_run 2 (pc' := 12) (ls' := [.ref 71]) (st' := [.int 1]) rfl ?_
        refine wp_retz rfl (Or.inr rfl) ?_
        show am_wp L xs _ _ _ _ 41 [.ref 0, .int 3, .int x2, .int 1, .int x4, .int x5, .ref 71, .ref 67] [.int 1] (am_S b) h _
        refine wp_if_t rfl (show ¬ (1 : Int32) = 0 from by decide) ?_
        refine wp_run 2 (pc' := 54) (ls' := [.ref 0, .int 3, .int x2, .int 1, .int x4, .int x5, .ref 71, .ref 67]) (st' := [.int 2, .ref 0]) rfl ?_
        refine wp_callV (o := 0) (as := [.int 2]) (rest := []) (els := [.ref 0, .int 2]) rfl rfl rfl rfl rfl rfl rfl rfl (by omega) ?_
        refine sp_refuse2 (by omega) ?_
        show am_wp L xs _ _ _ _ 57 [.ref 0, .int 3, .int x2, .int 1, .int x4, .int x5, .ref 71, .ref 67] [.int (-1000000002)] (am_S b) (am_u h 73 2 (h 73 2 + 1)) _
        refine wp_ret rfl ?_
        refine kk _ _ _ (fun ms2 Q2 kk2 => ?_)
        refine wp_run 6 (pc' := 8) (ls' := [.ref 74, .int 3, .int x2, .int 1, .int x4, .int x5, am_du, am_du, am_du]) (st' := [.int x5, .int x4, .int 1, .int x2, .int 3, .ref 74]) rfl ?_
        refine wp_callV (o := 74) (as := [.int 3, .int x2, .int 1, .int x4, .int x5]) (rest := []) (els := [.ref 74, .int 3, .int x2, .int 1, .int x4, .int x5, am_du]) rfl rfl rfl rfl rfl rfl rfl rfl (by omega) ?_
        refine wp_run 1 (pc' := 1) (ls' := [.ref 74, .int 3, .int x2, .int 1, .int x4, .int x5, am_du]) (st' := [.int 3]) rfl ?_
        refine wp_callS (as := [.int 3]) (rest := []) (els := [.int 3]) rfl rfl rfl rfl rfl rfl rfl rfl (by omega) ?_
        refine sp_m_isSheet (by omega) (fun _ _ _ => ?_) (fun q => absurd rfl (q 3 (by omega)))
        show am_wp L xs _ _ _ _ 4 [.ref 74, .int 3, .int x2, .int 1, .int x4, .int x5, am_du] [.int 1] (am_S b) (am_u h 73 2 (h 73 2 + 1)) _
        refine wp_if_f rfl (show ¬ ((1 : Int32) = 0) from by decide) ?_
        refine wp_run 1 (pc' := 8) (ls' := [.ref 74, .int 3, .int x2, .int 1, .int x4, .int x5, am_du]) (st' := [.int 1]) rfl ?_
        refine wp_callS (as := [.int 1]) (rest := []) (els := [.int 1]) rfl rfl rfl rfl rfl rfl rfl rfl (by omega) ?_
        refine sp_m_isSheet (by omega) (fun _ _ _ => ?_) (fun q => absurd rfl (q 1 (by omega)))
        show am_wp L xs _ _ _ _ 11 [.ref 74, .int 3, .int x2, .int 1, .int x4, .int x5, am_du] [.int 1] (am_S b) (am_u h 73 2 (h 73 2 + 1)) _
        refine wp_if_t rfl (show ¬ (1 : Int32) = 0 from by decide) ?_
        refine wp_run 1 (pc' := 18) (ls' := [.ref 74, .int 3, .int x2, .int 1, .int x4, .int x5, am_du]) (st' := [.ref 74]) rfl ?_
        refine wp_getr 78 rfl rfl rfl ?_
        refine wp_run 1 (pc' := 22) (ls' := [.ref 74, .int 3, .int x2, .int 1, .int x4, .int x5, am_du]) (st' := [.int 3, .ref 78]) rfl ?_
        refine wp_ald (i := 3) (h 78 3) rfl rfl rfl rfl (by decide) rfl ?_
        refine wp_if_t rfl (show (h 78 3) = 0 from (hob.symm.trans cqz0)) ?_
        refine wp_run 1 (pc' := 37) (ls' := [.ref 74, .int 3, .int x2, .int 1, .int x4, .int x5, am_du]) (st' := [.int (-1000000002)]) rfl ?_
        refine wp_ret rfl ?_
        show am_wp L xs _ _ _ _ 11 [.ref 74, .int 3, .int x2, .int 1, .int x4, .int x5, am_du, am_du, am_du] [.int (-1000000002)] (am_S b) (am_u h 73 2 (h 73 2 + 1)) _
        refine wp_run 2 (pc' := 15) (ls' := [.ref 74, .int 3, .int x2, .int 1, .int x4, .int x5, .int (-1000000002), am_du, am_du]) (st' := [.int (-1000000002)]) rfl ?_
        refine wp_if_f rfl (show ¬ (((-1000000002) : Int32) = 0) from by decide) ?_
        refine wp_run 2 (pc' := 21) (ls' := [.ref 74, .int 3, .int x2, .int 1, .int x4, .int x5, .int (-1000000002), am_du, am_du]) (st' := [.int (-1000000002), .ref 74]) rfl ?_
        refine wp_callV (o := 74) (as := [.int (-1000000002)]) (rest := []) (els := [.ref 74, .int (-1000000002)]) rfl rfl rfl rfl rfl rfl rfl rfl (by omega) ?_
        refine sp_error2 ?_
        show am_wp L xs _ _ _ _ 24 [.ref 74, .int 3, .int x2, .int 1, .int x4, .int x5, .int (-1000000002), am_du, am_du] [.int (-1000000002)] (am_S b) (am_u (am_u h 73 2 (h 73 2 + 1)) 77 2 ((am_u h 73 2 (h 73 2 + 1)) 77 2 + 1)) _
        refine wp_ret rfl ?_
        exact kk2 _ _ (re_err2 hR)
    · skip
      intro ex3
      subst ex3
      show am_wp L xs _ _ _ _ 11 [.ref 0, .int 3, .int x2, .int 2, .int x4, .int x5, am_du, am_du] [.int 1] (am_S b) h _
      refine wp_if_t rfl (show ¬ (1 : Int32) = 0 from by decide) ?_
      obtain ⟨l, hl24, ho2, hz2, hob, hbb, hri⟩ := id hS3
      obtain ⟨lB, hl24B, ho2B, hz2B, hobB, hbbB, hriB⟩ := id hS2
      refine wp_run 1 (pc' := 21) (ls' := [.ref 0, .int 3, .int x2, .int 2, .int x4, .int x5, am_du, am_du]) (st' := [.ref 0]) rfl ?_
      refine wp_getr 64 rfl rfl rfl ?_
      refine wp_run 1 (pc' := 25) (ls' := [.ref 0, .int 3, .int x2, .int 2, .int x4, .int x5, am_du, am_du]) (st' := [.int 3, .ref 64]) rfl ?_
      refine wp_aald (r := 71) rfl rfl (Or.inr rfl) rfl (by decide) rfl rfl ?_
      refine wp_run 2 (pc' := 29) (ls' := [.ref 0, .int 3, .int x2, .int 2, .int x4, .int x5, .ref 71, am_du]) (st' := [.ref 0]) rfl ?_
      refine wp_getr 64 rfl rfl rfl ?_
      refine wp_run 1 (pc' := 33) (ls' := [.ref 0, .int 3, .int x2, .int 2, .int x4, .int x5, .ref 71, am_du]) (st' := [.int 2, .ref 64]) rfl ?_
      refine wp_aald (r := 69) rfl rfl (Or.inr rfl) rfl (by decide) rfl rfl ?_
      refine wp_run 2 (pc' := 38) (ls' := [.ref 0, .int 3, .int x2, .int 2, .int x4, .int x5, .ref 71, .ref 69]) (st' := [.ref 71]) rfl ?_
      refine wp_callV (o := 71) (as := []) (rest := []) (els := [.ref 71]) rfl rfl rfl rfl rfl rfl rfl rfl (by omega) ?_
      refine wp_run 1 (pc' := 1) (ls' := [.ref 71]) (st' := [.ref 71]) rfl ?_
      refine wp_geti (a := 1) (h 71 1) rfl rfl rfl rfl ?_
      refine wp_if rfl (fun (cqz0 : ¬ (h 71 1) = 0) => ?_) (fun (cqz0 : ¬ (¬ (h 71 1) = 0)) => ?_)
      · skip
        refine wp_run 1 (pc' := 12) (ls' := [.ref 71]) (st' := [.int 0]) rfl ?_
        refine wp_retz rfl (Or.inl rfl) ?_
        show am_wp L xs _ _ _ _ 41 [.ref 0, .int 3, .int x2, .int 2, .int x4, .int x5, .ref 71, .ref 69] [.int 0] (am_S b) h _
        refine wp_if_f rfl (show ¬ (¬ (0 : Int32) = 0) from by decide) ?_
        refine wp_run 1 (pc' := 46) (ls' := [.ref 0, .int 3, .int x2, .int 2, .int x4, .int x5, .ref 71, .ref 69]) (st' := [.ref 69]) rfl ?_
        refine wp_callV (o := 69) (as := []) (rest := []) (els := [.ref 69]) rfl rfl rfl rfl rfl rfl rfl rfl (by omega) ?_
        refine wp_run 1 (pc' := 1) (ls' := [.ref 69]) (st' := [.ref 69]) rfl ?_
        refine wp_geti (a := 1) (h 69 1) rfl rfl rfl rfl ?_
        refine wp_if rfl (fun (cqz1 : ¬ (h 69 1) = 0) => ?_) (fun (cqz1 : ¬ (¬ (h 69 1) = 0)) => ?_)
        · skip
          refine wp_run 1 (pc' := 12) (ls' := [.ref 69]) (st' := [.int 0]) rfl ?_
          refine wp_retz rfl (Or.inl rfl) ?_
          show am_wp L xs _ _ _ _ 49 [.ref 0, .int 3, .int x2, .int 2, .int x4, .int x5, .ref 71, .ref 69] [.int 0] (am_S b) h _
          refine wp_if_t rfl (show (0 : Int32) = 0 from by decide) ?_
          refine wp_run 1 (pc' := 60) (ls' := [.ref 0, .int 3, .int x2, .int 2, .int x4, .int x5, .ref 71, .ref 69]) (st' := [.ref 71]) rfl ?_
          refine wp_geti (a := 1) (h 71 1) rfl rfl rfl rfl ?_
          refine wp_run 1 (pc' := 65) (ls' := [.ref 0, .int 3, .int x2, .int 2, .int x4, .int x5, .ref 71, .ref 69]) (st' := [.ref 69, .int (h 71 1)]) rfl ?_
          refine wp_geti (a := 1) (h 69 1) rfl rfl rfl rfl ?_
          refine wp_icmp rfl (fun (cqe : (h 71 1) = (h 69 1)) => ?_) (fun (cqe : ¬ ((h 71 1) = (h 69 1))) => ?_)
          · skip
            refine wp_run 3 (pc' := 82) (ls' := [.ref 0, .int 3, .int x2, .int 2, .int x4, .int x5, .ref 71, .ref 69]) (st' := [.int x5, .int x2, .ref 71]) rfl ?_
            refine wp_callV (o := 71) (as := [.int x2, .int x5]) (rest := []) (els := [.ref 71, .int x2, .int x5]) rfl rfl rfl rfl rfl rfl rfl rfl (by omega) ?_
            refine sp_holds (h := h) (o := 71) (l := l) rfl ho2 hl24 (by omega) ?_ ?_
            · skip
              intro k2 k5 e5 e2 hle1
              subst e5
              subst e2
              show am_wp L xs _ _ _ _ 85 [.ref 0, .int 3, .int (nI k2), .int 2, .int x4, .int (nI k5), .ref 71, .ref 69] [.int 1] (am_S b) h _
              refine wp_if_f rfl (show ¬ ((1 : Int32) = 0) from by decide) ?_
              refine wp_run 3 (pc' := 94) (ls' := [.ref 0, .int 3, .int (nI k2), .int 2, .int x4, .int (nI k5), .ref 71, .ref 69]) (st' := [.int (nI k5), .int x4, .ref 69]) rfl ?_
              refine wp_callV (o := 69) (as := [.int x4, .int (nI k5)]) (rest := []) (els := [.ref 69, .int x4, .int (nI k5)]) rfl rfl rfl rfl rfl rfl rfl rfl (by omega) ?_
              refine sp_holds (h := h) (o := 69) (l := lB) rfl ho2B hl24B (by omega) ?_ ?_
              · skip
                intro k4 n4 q1 e4 hle2
                have en := pu_inj (by omega) (by omega) q1
                subst en
                subst e4
                show am_wp L xs _ _ _ _ 97 [.ref 0, .int 3, .int (nI k2), .int 2, .int (nI k4), .int (nI k5), .ref 71, .ref 69] [.int 1] (am_S b) h _
                refine wp_if_t rfl (show ¬ (1 : Int32) = 0 from by decide) ?_
                refine wp_run 1 (pc' := 108) (ls' := [.ref 0, .int 3, .int (nI k2), .int 2, .int (nI k4), .int (nI k5), .ref 71, .ref 69]) (st' := [.ref 71]) rfl ?_
                refine wp_getr 72 rfl rfl rfl ?_
                refine wp_run 2 (pc' := 114) (ls' := [.ref 0, .int 3, .int (nI k2), .int 2, .int (nI k4), .int (nI k5), .ref 71, .ref 69]) (st' := [.ref 69, .int (nI k2), .ref 72]) rfl ?_
                refine wp_getr 70 rfl rfl rfl ?_
                refine wp_run 2 (pc' := 121) (ls' := [.ref 0, .int 3, .int (nI k2), .int 2, .int (nI k4), .int (nI k5), .ref 71, .ref 69]) (st' := [.int (nI k5), .int (nI k4), .ref 70, .int (nI k2), .ref 72]) rfl ?_
                refine wp_copy (q := 72) (o := 70) (sp := k2) (dp := k4) (n := k5) rfl rfl rfl rfl rfl rfl (by omega) (by omega) (by omega) (by omega) rfl (by omega) ?_
                refine wp_run 1 (pc' := 126) (ls' := [.ref 0, .int 3, .int (nI k2), .int 2, .int (nI k4), .int (nI k5), .ref 71, .ref 69]) (st' := [.int (nI k5)]) rfl ?_
                refine wp_ret rfl ?_
                refine kk _ _ _ (fun ms2 Q2 kk2 => ?_)
                refine wp_run 6 (pc' := 8) (ls' := [.ref 74, .int 3, .int (nI k2), .int 2, .int (nI k4), .int (nI k5), am_du, am_du, am_du]) (st' := [.int (nI k5), .int (nI k4), .int 2, .int (nI k2), .int 3, .ref 74]) rfl ?_
                refine wp_callV (o := 74) (as := [.int 3, .int (nI k2), .int 2, .int (nI k4), .int (nI k5)]) (rest := []) (els := [.ref 74, .int 3, .int (nI k2), .int 2, .int (nI k4), .int (nI k5), am_du]) rfl rfl rfl rfl rfl rfl rfl rfl (by omega) ?_
                refine wp_run 1 (pc' := 1) (ls' := [.ref 74, .int 3, .int (nI k2), .int 2, .int (nI k4), .int (nI k5), am_du]) (st' := [.int 3]) rfl ?_
                refine wp_callS (as := [.int 3]) (rest := []) (els := [.int 3]) rfl rfl rfl rfl rfl rfl rfl rfl (by omega) ?_
                refine sp_m_isSheet (by omega) (fun _ _ _ => ?_) (fun q => absurd rfl (q 3 (by omega)))
                show am_wp L xs _ _ _ _ 4 [.ref 74, .int 3, .int (nI k2), .int 2, .int (nI k4), .int (nI k5), am_du] [.int 1] (am_S b) (am_ur h 70 (va_cpy (h 72) (h 70) k2 k4 k5)) _
                refine wp_if_f rfl (show ¬ ((1 : Int32) = 0) from by decide) ?_
                refine wp_run 1 (pc' := 8) (ls' := [.ref 74, .int 3, .int (nI k2), .int 2, .int (nI k4), .int (nI k5), am_du]) (st' := [.int 2]) rfl ?_
                refine wp_callS (as := [.int 2]) (rest := []) (els := [.int 2]) rfl rfl rfl rfl rfl rfl rfl rfl (by omega) ?_
                refine sp_m_isSheet (by omega) (fun _ _ _ => ?_) (fun q => absurd rfl (q 2 (by omega)))
                show am_wp L xs _ _ _ _ 11 [.ref 74, .int 3, .int (nI k2), .int 2, .int (nI k4), .int (nI k5), am_du] [.int 1] (am_S b) (am_ur h 70 (va_cpy (h 72) (h 70) k2 k4 k5)) _
                refine wp_if_t rfl (show ¬ (1 : Int32) = 0 from by decide) ?_
                refine wp_run 1 (pc' := 18) (ls' := [.ref 74, .int 3, .int (nI k2), .int 2, .int (nI k4), .int (nI k5), am_du]) (st' := [.ref 74]) rfl ?_
                refine wp_getr 78 rfl rfl rfl ?_
                refine wp_run 1 (pc' := 22) (ls' := [.ref 74, .int 3, .int (nI k2), .int 2, .int (nI k4), .int (nI k5), am_du]) (st' := [.int 3, .ref 78]) rfl ?_
                refine wp_ald (i := 3) (h 78 3) rfl rfl rfl rfl (by decide) rfl ?_
                refine wp_if_f rfl (show ¬ ((h 78 3) = 0) from (fun q => cqz0 (hob.trans q))) ?_
                refine wp_run 1 (pc' := 27) (ls' := [.ref 74, .int 3, .int (nI k2), .int 2, .int (nI k4), .int (nI k5), am_du]) (st' := [.ref 74]) rfl ?_
                refine wp_getr 78 rfl rfl rfl ?_
                refine wp_run 1 (pc' := 31) (ls' := [.ref 74, .int 3, .int (nI k2), .int 2, .int (nI k4), .int (nI k5), am_du]) (st' := [.int 2, .ref 78]) rfl ?_
                refine wp_ald (i := 2) (h 78 2) rfl rfl rfl rfl (by decide) rfl ?_
                refine wp_if_t rfl (show ¬ (h 78 2) = 0 from (fun q => cqz1 (hobB.trans q))) ?_
                refine wp_run 1 (pc' := 39) (ls' := [.ref 74, .int 3, .int (nI k2), .int 2, .int (nI k4), .int (nI k5), am_du]) (st' := [.ref 74]) rfl ?_
                refine wp_getr 78 rfl rfl rfl ?_
                refine wp_run 1 (pc' := 43) (ls' := [.ref 74, .int 3, .int (nI k2), .int 2, .int (nI k4), .int (nI k5), am_du]) (st' := [.int 3, .ref 78]) rfl ?_
                refine wp_ald (i := 3) (h 78 3) rfl rfl rfl rfl (by decide) rfl ?_
                refine wp_run 1 (pc' := 45) (ls' := [.ref 74, .int 3, .int (nI k2), .int 2, .int (nI k4), .int (nI k5), am_du]) (st' := [.ref 74, .int (h 78 3)]) rfl ?_
                refine wp_getr 78 rfl rfl rfl ?_
                refine wp_run 1 (pc' := 49) (ls' := [.ref 74, .int 3, .int (nI k2), .int 2, .int (nI k4), .int (nI k5), am_du]) (st' := [.int 2, .ref 78, .int (h 78 3)]) rfl ?_
                refine wp_ald (i := 2) (h 78 2) rfl rfl rfl rfl (by decide) rfl ?_
                refine wp_icmp_t rfl (show (h 78 3) = (h 78 2) from (hob.symm.trans (cqe.trans hobB))) ?_
                refine wp_run 1 (pc' := 58) (ls' := [.ref 74, .int 3, .int (nI k2), .int 2, .int (nI k4), .int (nI k5), am_du]) (st' := [.int (nI k5)]) rfl ?_
                refine wp_if_f rfl (show ¬ ((nI k5) < 0) from mt (nI_ltI (a := k5) (b := 0) (by omega) (by omega)).mp (by omega)) ?_
                refine wp_run 1 (pc' := 62) (ls' := [.ref 74, .int 3, .int (nI k2), .int 2, .int (nI k4), .int (nI k5), am_du]) (st' := [.int (nI k2)]) rfl ?_
                refine wp_if_f rfl (show ¬ ((nI k2) < 0) from mt (nI_ltI (a := k2) (b := 0) (by omega) (by omega)).mp (by omega)) ?_
                refine wp_run 1 (pc' := 67) (ls' := [.ref 74, .int 3, .int (nI k2), .int 2, .int (nI k4), .int (nI k5), am_du]) (st' := [.int (nI k4)]) rfl ?_
                refine wp_if_f rfl (show ¬ ((nI k4) < 0) from mt (nI_ltI (a := k4) (b := 0) (by omega) (by omega)).mp (by omega)) ?_
                refine wp_run 2 (pc' := 73) (ls' := [.ref 74, .int 3, .int (nI k2), .int 2, .int (nI k4), .int (nI k5), am_du]) (st' := [.ref 74, .int (nI k5)]) rfl ?_
                refine wp_getr 79 rfl rfl rfl ?_
                refine wp_run 1 (pc' := 77) (ls' := [.ref 74, .int 3, .int (nI k2), .int 2, .int (nI k4), .int (nI k5), am_du]) (st' := [.int 3, .ref 79, .int (nI k5)]) rfl ?_
                refine wp_ald (i := 3) (nI l) hz2 rfl rfl rfl (by decide) rfl ?_
                refine wp_run 2 (pc' := 80) (ls' := [.ref 74, .int 3, .int (nI k2), .int 2, .int (nI k4), .int (nI k5), am_du]) (st' := [.int ((nI l) - (nI k2)), .int (nI k5)]) rfl ?_
                refine wp_icmp_f rfl (show ¬ (((nI l) - (nI k2)) < (nI k5)) from Int32.not_lt.mpr ((pu_suble (by omega) (by omega) hl24).mpr (by omega))) ?_
                refine wp_run 2 (pc' := 86) (ls' := [.ref 74, .int 3, .int (nI k2), .int 2, .int (nI k4), .int (nI k5), am_du]) (st' := [.ref 74, .int (nI k5)]) rfl ?_
                refine wp_getr 79 rfl rfl rfl ?_
                refine wp_run 1 (pc' := 90) (ls' := [.ref 74, .int 3, .int (nI k2), .int 2, .int (nI k4), .int (nI k5), am_du]) (st' := [.int 2, .ref 79, .int (nI k5)]) rfl ?_
                refine wp_ald (i := 2) (nI lB) hz2B rfl rfl rfl (by decide) rfl ?_
                refine wp_run 2 (pc' := 94) (ls' := [.ref 74, .int 3, .int (nI k2), .int 2, .int (nI k4), .int (nI k5), am_du]) (st' := [.int ((nI lB) - (nI k4)), .int (nI k5)]) rfl ?_
                refine wp_icmp_f rfl (show ¬ (((nI lB) - (nI k4)) < (nI k5)) from Int32.not_lt.mpr ((pu_suble (by omega) (by omega) hl24B).mpr (by omega))) ?_
                refine wp_run 4 (pc' := 106) (ls' := [.ref 74, .int 3, .int (nI k2), .int 2, .int (nI k4), .int (nI k5), .int 1]) (st' := [.int 1]) rfl ?_
                refine wp_if_f rfl (show ¬ ((1 : Int32) = 0) from by decide) ?_
                refine wp_run 2 (pc' := 115) (ls' := [.ref 74, .int 3, .int (nI k2), .int 2, .int (nI k4), .int (nI k5), .int 1]) (st' := [.int 0]) rfl ?_
                refine wp_ret rfl ?_
                show am_wp L xs _ _ _ _ 11 [.ref 74, .int 3, .int (nI k2), .int 2, .int (nI k4), .int (nI k5), am_du, am_du, am_du] [.int 0] (am_S b) (am_ur h 70 (va_cpy (h 72) (h 70) k2 k4 k5)) _
                refine wp_run 2 (pc' := 15) (ls' := [.ref 74, .int 3, .int (nI k2), .int 2, .int (nI k4), .int (nI k5), .int 0, am_du, am_du]) (st' := [.int 0]) rfl ?_
                refine wp_if_t rfl (show (0 : Int32) = 0 from by decide) ?_
                refine wp_run 2 (pc' := 28) (ls' := [.ref 74, .int 3, .int (nI k2), .int 2, .int (nI k4), .int (nI k5), .int 0, .int 0, am_du]) (st' := []) rfl ?_
                by_cases hij : k2 < k4
                · have hp := lp_mvd (L := L) (xs := xs) (d := d) (ms := ms2) (b := b) (h := (am_ur h 70 (va_cpy (h 72) (h 70) k2 k4 k5))) (Q := Q2) (s := 3) (o := 2) (i := k2) (j := k4) (n := k5) (by omega) (by omega) (by omega) (by omega) hij (by omega) ?_ k5 0 am_du (by omega)
                  · rw [mv_d0] at hp; exact hp
                  · exact kk2 _ _ ⟨⟨n, c, t, tp, wt, s0, s1, p0, p1, H⟩, re_im_s hI, hE, (re_sh_mo hS0 (by decide) (by omega)), (re_sh_mo hS1 (by decide) (by omega)), (re_sh_m hS3 hS2 (by omega) (by omega)), (re_sh_mo hS3 (by decide) (by omega)), hT⟩
                · have hp := lp_mva (L := L) (xs := xs) (d := d) (ms := ms2) (b := b) (h := (am_ur h 70 (va_cpy (h 72) (h 70) k2 k4 k5))) (Q := Q2) (s := 3) (o := 2) (i := k2) (j := k4) (n := k5) (by omega) (by omega) (by omega) (by omega) hij (by omega) ?_ k5 0 am_du (by omega)
                  · rw [mv_a0] at hp; exact hp
                  · exact kk2 _ _ ⟨⟨n, c, t, tp, wt, s0, s1, p0, p1, H⟩, re_im_s hI, hE, (re_sh_mo hS0 (by decide) (by omega)), (re_sh_mo hS1 (by decide) (by omega)), (re_sh_m hS3 hS2 (by omega) (by omega)), (re_sh_mo hS3 (by decide) (by omega)), hT⟩
              · skip
                intro hno2
                show am_wp L xs _ _ _ _ 97 [.ref 0, .int 3, .int (nI k2), .int 2, .int x4, .int (nI k5), .ref 71, .ref 69] [.int 0] (am_S b) h _
                refine wp_if_f rfl (show ¬ (¬ (0 : Int32) = 0) from by decide) ?_
                refine wp_run 2 (pc' := 102) (ls' := [.ref 0, .int 3, .int (nI k2), .int 2, .int x4, .int (nI k5), .ref 71, .ref 69]) (st' := [.int 1, .ref 0]) rfl ?_
                refine wp_callV (o := 0) (as := [.int 1]) (rest := []) (els := [.ref 0, .int 1]) rfl rfl rfl rfl rfl rfl rfl rfl (by omega) ?_
                refine sp_refuse1 (by omega) ?_
                show am_wp L xs _ _ _ _ 105 [.ref 0, .int 3, .int (nI k2), .int 2, .int x4, .int (nI k5), .ref 71, .ref 69] [.int (-1000000001)] (am_S b) (am_u h 73 1 (h 73 1 + 1)) _
                refine wp_ret rfl ?_
                refine kk _ _ _ (fun ms2 Q2 kk2 => ?_)
                refine wp_run 6 (pc' := 8) (ls' := [.ref 74, .int 3, .int (nI k2), .int 2, .int x4, .int (nI k5), am_du, am_du, am_du]) (st' := [.int (nI k5), .int x4, .int 2, .int (nI k2), .int 3, .ref 74]) rfl ?_
                refine wp_callV (o := 74) (as := [.int 3, .int (nI k2), .int 2, .int x4, .int (nI k5)]) (rest := []) (els := [.ref 74, .int 3, .int (nI k2), .int 2, .int x4, .int (nI k5), am_du]) rfl rfl rfl rfl rfl rfl rfl rfl (by omega) ?_
                refine wp_run 1 (pc' := 1) (ls' := [.ref 74, .int 3, .int (nI k2), .int 2, .int x4, .int (nI k5), am_du]) (st' := [.int 3]) rfl ?_
                refine wp_callS (as := [.int 3]) (rest := []) (els := [.int 3]) rfl rfl rfl rfl rfl rfl rfl rfl (by omega) ?_
                refine sp_m_isSheet (by omega) (fun _ _ _ => ?_) (fun q => absurd rfl (q 3 (by omega)))
                show am_wp L xs _ _ _ _ 4 [.ref 74, .int 3, .int (nI k2), .int 2, .int x4, .int (nI k5), am_du] [.int 1] (am_S b) (am_u h 73 1 (h 73 1 + 1)) _
                refine wp_if_f rfl (show ¬ ((1 : Int32) = 0) from by decide) ?_
                refine wp_run 1 (pc' := 8) (ls' := [.ref 74, .int 3, .int (nI k2), .int 2, .int x4, .int (nI k5), am_du]) (st' := [.int 2]) rfl ?_
                refine wp_callS (as := [.int 2]) (rest := []) (els := [.int 2]) rfl rfl rfl rfl rfl rfl rfl rfl (by omega) ?_
                refine sp_m_isSheet (by omega) (fun _ _ _ => ?_) (fun q => absurd rfl (q 2 (by omega)))
                show am_wp L xs _ _ _ _ 11 [.ref 74, .int 3, .int (nI k2), .int 2, .int x4, .int (nI k5), am_du] [.int 1] (am_S b) (am_u h 73 1 (h 73 1 + 1)) _
                refine wp_if_t rfl (show ¬ (1 : Int32) = 0 from by decide) ?_
                refine wp_run 1 (pc' := 18) (ls' := [.ref 74, .int 3, .int (nI k2), .int 2, .int x4, .int (nI k5), am_du]) (st' := [.ref 74]) rfl ?_
                refine wp_getr 78 rfl rfl rfl ?_
                refine wp_run 1 (pc' := 22) (ls' := [.ref 74, .int 3, .int (nI k2), .int 2, .int x4, .int (nI k5), am_du]) (st' := [.int 3, .ref 78]) rfl ?_
                refine wp_ald (i := 3) (h 78 3) rfl rfl rfl rfl (by decide) rfl ?_
                refine wp_if_f rfl (show ¬ ((h 78 3) = 0) from (fun q => cqz0 (hob.trans q))) ?_
                refine wp_run 1 (pc' := 27) (ls' := [.ref 74, .int 3, .int (nI k2), .int 2, .int x4, .int (nI k5), am_du]) (st' := [.ref 74]) rfl ?_
                refine wp_getr 78 rfl rfl rfl ?_
                refine wp_run 1 (pc' := 31) (ls' := [.ref 74, .int 3, .int (nI k2), .int 2, .int x4, .int (nI k5), am_du]) (st' := [.int 2, .ref 78]) rfl ?_
                refine wp_ald (i := 2) (h 78 2) rfl rfl rfl rfl (by decide) rfl ?_
                refine wp_if_t rfl (show ¬ (h 78 2) = 0 from (fun q => cqz1 (hobB.trans q))) ?_
                refine wp_run 1 (pc' := 39) (ls' := [.ref 74, .int 3, .int (nI k2), .int 2, .int x4, .int (nI k5), am_du]) (st' := [.ref 74]) rfl ?_
                refine wp_getr 78 rfl rfl rfl ?_
                refine wp_run 1 (pc' := 43) (ls' := [.ref 74, .int 3, .int (nI k2), .int 2, .int x4, .int (nI k5), am_du]) (st' := [.int 3, .ref 78]) rfl ?_
                refine wp_ald (i := 3) (h 78 3) rfl rfl rfl rfl (by decide) rfl ?_
                refine wp_run 1 (pc' := 45) (ls' := [.ref 74, .int 3, .int (nI k2), .int 2, .int x4, .int (nI k5), am_du]) (st' := [.ref 74, .int (h 78 3)]) rfl ?_
                refine wp_getr 78 rfl rfl rfl ?_
                refine wp_run 1 (pc' := 49) (ls' := [.ref 74, .int 3, .int (nI k2), .int 2, .int x4, .int (nI k5), am_du]) (st' := [.int 2, .ref 78, .int (h 78 3)]) rfl ?_
                refine wp_ald (i := 2) (h 78 2) rfl rfl rfl rfl (by decide) rfl ?_
                refine wp_icmp_t rfl (show (h 78 3) = (h 78 2) from (hob.symm.trans (cqe.trans hobB))) ?_
                refine wp_run 1 (pc' := 58) (ls' := [.ref 74, .int 3, .int (nI k2), .int 2, .int x4, .int (nI k5), am_du]) (st' := [.int (nI k5)]) rfl ?_
                refine wp_if_f rfl (show ¬ ((nI k5) < 0) from mt (nI_ltI (a := k5) (b := 0) (by omega) (by omega)).mp (by omega)) ?_
                refine wp_run 1 (pc' := 62) (ls' := [.ref 74, .int 3, .int (nI k2), .int 2, .int x4, .int (nI k5), am_du]) (st' := [.int (nI k2)]) rfl ?_
                refine wp_if_f rfl (show ¬ ((nI k2) < 0) from mt (nI_ltI (a := k2) (b := 0) (by omega) (by omega)).mp (by omega)) ?_
                refine wp_run 1 (pc' := 67) (ls' := [.ref 74, .int 3, .int (nI k2), .int 2, .int x4, .int (nI k5), am_du]) (st' := [.int x4]) rfl ?_
                refine wp_if rfl (fun (cq67 : x4 < 0) => ?_) (fun (cq67 : ¬ (x4 < 0)) => ?_)
                · skip
                  refine wp_run 3 (pc' := 106) (ls' := [.ref 74, .int 3, .int (nI k2), .int 2, .int x4, .int (nI k5), .int 0]) (st' := [.int 0]) rfl ?_
                  refine wp_if_t rfl (show (0 : Int32) = 0 from by decide) ?_
                  refine wp_run 1 (pc' := 115) (ls' := [.ref 74, .int 3, .int (nI k2), .int 2, .int x4, .int (nI k5), .int 0]) (st' := [.int (-1000000001)]) rfl ?_
                  refine wp_ret rfl ?_
                  show am_wp L xs _ _ _ _ 11 [.ref 74, .int 3, .int (nI k2), .int 2, .int x4, .int (nI k5), am_du, am_du, am_du] [.int (-1000000001)] (am_S b) (am_u h 73 1 (h 73 1 + 1)) _
                  refine wp_run 2 (pc' := 15) (ls' := [.ref 74, .int 3, .int (nI k2), .int 2, .int x4, .int (nI k5), .int (-1000000001), am_du, am_du]) (st' := [.int (-1000000001)]) rfl ?_
                  refine wp_if_f rfl (show ¬ (((-1000000001) : Int32) = 0) from by decide) ?_
                  refine wp_run 2 (pc' := 21) (ls' := [.ref 74, .int 3, .int (nI k2), .int 2, .int x4, .int (nI k5), .int (-1000000001), am_du, am_du]) (st' := [.int (-1000000001), .ref 74]) rfl ?_
                  refine wp_callV (o := 74) (as := [.int (-1000000001)]) (rest := []) (els := [.ref 74, .int (-1000000001)]) rfl rfl rfl rfl rfl rfl rfl rfl (by omega) ?_
                  refine sp_error1 ?_
                  show am_wp L xs _ _ _ _ 24 [.ref 74, .int 3, .int (nI k2), .int 2, .int x4, .int (nI k5), .int (-1000000001), am_du, am_du] [.int (-1000000001)] (am_S b) (am_u (am_u h 73 1 (h 73 1 + 1)) 77 1 ((am_u h 73 1 (h 73 1 + 1)) 77 1 + 1)) _
                  refine wp_ret rfl ?_
                  exact kk2 _ _ (re_err1 hR)
                · skip
                  obtain ⟨k4, hk4, ek4⟩ := pu_nonneg (Int32.not_lt.mp cq67)
                  subst ek4
                  refine wp_run 2 (pc' := 73) (ls' := [.ref 74, .int 3, .int (nI k2), .int 2, .int (nI k4), .int (nI k5), am_du]) (st' := [.ref 74, .int (nI k5)]) rfl ?_
                  refine wp_getr 79 rfl rfl rfl ?_
                  refine wp_run 1 (pc' := 77) (ls' := [.ref 74, .int 3, .int (nI k2), .int 2, .int (nI k4), .int (nI k5), am_du]) (st' := [.int 3, .ref 79, .int (nI k5)]) rfl ?_
                  refine wp_ald (i := 3) (nI l) hz2 rfl rfl rfl (by decide) rfl ?_
                  refine wp_run 2 (pc' := 80) (ls' := [.ref 74, .int 3, .int (nI k2), .int 2, .int (nI k4), .int (nI k5), am_du]) (st' := [.int ((nI l) - (nI k2)), .int (nI k5)]) rfl ?_
                  refine wp_icmp_f rfl (show ¬ (((nI l) - (nI k2)) < (nI k5)) from Int32.not_lt.mpr ((pu_suble (by omega) (by omega) hl24).mpr (by omega))) ?_
                  refine wp_run 2 (pc' := 86) (ls' := [.ref 74, .int 3, .int (nI k2), .int 2, .int (nI k4), .int (nI k5), am_du]) (st' := [.ref 74, .int (nI k5)]) rfl ?_
                  refine wp_getr 79 rfl rfl rfl ?_
                  refine wp_run 1 (pc' := 90) (ls' := [.ref 74, .int 3, .int (nI k2), .int 2, .int (nI k4), .int (nI k5), am_du]) (st' := [.int 2, .ref 79, .int (nI k5)]) rfl ?_
                  refine wp_ald (i := 2) (nI lB) hz2B rfl rfl rfl (by decide) rfl ?_
                  refine wp_run 2 (pc' := 94) (ls' := [.ref 74, .int 3, .int (nI k2), .int 2, .int (nI k4), .int (nI k5), am_du]) (st' := [.int ((nI lB) - (nI k4)), .int (nI k5)]) rfl ?_
                  refine wp_icmp_t rfl (show ((nI lB) - (nI k4)) < (nI k5) from Int32.not_le.mp (fun q => hno2 k4 k5 rfl rfl (by have := (pu_suble (by omega) (by omega) hl24B).mp q; omega))) ?_
                  refine wp_run 3 (pc' := 106) (ls' := [.ref 74, .int 3, .int (nI k2), .int 2, .int (nI k4), .int (nI k5), .int 0]) (st' := [.int 0]) rfl ?_
                  refine wp_if_t rfl (show (0 : Int32) = 0 from by decide) ?_
                  refine wp_run 1 (pc' := 115) (ls' := [.ref 74, .int 3, .int (nI k2), .int 2, .int (nI k4), .int (nI k5), .int 0]) (st' := [.int (-1000000001)]) rfl ?_
                  refine wp_ret rfl ?_
                  show am_wp L xs _ _ _ _ 11 [.ref 74, .int 3, .int (nI k2), .int 2, .int (nI k4), .int (nI k5), am_du, am_du, am_du] [.int (-1000000001)] (am_S b) (am_u h 73 1 (h 73 1 + 1)) _
                  refine wp_run 2 (pc' := 15) (ls' := [.ref 74, .int 3, .int (nI k2), .int 2, .int (nI k4), .int (nI k5), .int (-1000000001), am_du, am_du]) (st' := [.int (-1000000001)]) rfl ?_
                  refine wp_if_f rfl (show ¬ (((-1000000001) : Int32) = 0) from by decide) ?_
                  refine wp_run 2 (pc' := 21) (ls' := [.ref 74, .int 3, .int (nI k2), .int 2, .int (nI k4), .int (nI k5), .int (-1000000001), am_du, am_du]) (st' := [.int (-1000000001), .ref 74]) rfl ?_
                  refine wp_callV (o := 74) (as := [.int (-1000000001)]) (rest := []) (els := [.ref 74, .int (-1000000001)]) rfl rfl rfl rfl rfl rfl rfl rfl (by omega) ?_
                  refine sp_error1 ?_
                  show am_wp L xs _ _ _ _ 24 [.ref 74, .int 3, .int (nI k2), .int 2, .int (nI k4), .int (nI k5), .int (-1000000001), am_du, am_du] [.int (-1000000001)] (am_S b) (am_u (am_u h 73 1 (h 73 1 + 1)) 77 1 ((am_u h 73 1 (h 73 1 + 1)) 77 1 + 1)) _
                  refine wp_ret rfl ?_
                  exact kk2 _ _ (re_err1 hR)
            · skip
              intro hno1
              show am_wp L xs _ _ _ _ 85 [.ref 0, .int 3, .int x2, .int 2, .int x4, .int x5, .ref 71, .ref 69] [.int 0] (am_S b) h _
              refine wp_if_t rfl (show (0 : Int32) = 0 from by decide) ?_
              refine wp_run 2 (pc' := 102) (ls' := [.ref 0, .int 3, .int x2, .int 2, .int x4, .int x5, .ref 71, .ref 69]) (st' := [.int 1, .ref 0]) rfl ?_
              refine wp_callV (o := 0) (as := [.int 1]) (rest := []) (els := [.ref 0, .int 1]) rfl rfl rfl rfl rfl rfl rfl rfl (by omega) ?_
              refine sp_refuse1 (by omega) ?_
              show am_wp L xs _ _ _ _ 105 [.ref 0, .int 3, .int x2, .int 2, .int x4, .int x5, .ref 71, .ref 69] [.int (-1000000001)] (am_S b) (am_u h 73 1 (h 73 1 + 1)) _
              refine wp_ret rfl ?_
              refine kk _ _ _ (fun ms2 Q2 kk2 => ?_)
              refine wp_run 6 (pc' := 8) (ls' := [.ref 74, .int 3, .int x2, .int 2, .int x4, .int x5, am_du, am_du, am_du]) (st' := [.int x5, .int x4, .int 2, .int x2, .int 3, .ref 74]) rfl ?_
              refine wp_callV (o := 74) (as := [.int 3, .int x2, .int 2, .int x4, .int x5]) (rest := []) (els := [.ref 74, .int 3, .int x2, .int 2, .int x4, .int x5, am_du]) rfl rfl rfl rfl rfl rfl rfl rfl (by omega) ?_
              refine wp_run 1 (pc' := 1) (ls' := [.ref 74, .int 3, .int x2, .int 2, .int x4, .int x5, am_du]) (st' := [.int 3]) rfl ?_
              refine wp_callS (as := [.int 3]) (rest := []) (els := [.int 3]) rfl rfl rfl rfl rfl rfl rfl rfl (by omega) ?_
              refine sp_m_isSheet (by omega) (fun _ _ _ => ?_) (fun q => absurd rfl (q 3 (by omega)))
              show am_wp L xs _ _ _ _ 4 [.ref 74, .int 3, .int x2, .int 2, .int x4, .int x5, am_du] [.int 1] (am_S b) (am_u h 73 1 (h 73 1 + 1)) _
              refine wp_if_f rfl (show ¬ ((1 : Int32) = 0) from by decide) ?_
              refine wp_run 1 (pc' := 8) (ls' := [.ref 74, .int 3, .int x2, .int 2, .int x4, .int x5, am_du]) (st' := [.int 2]) rfl ?_
              refine wp_callS (as := [.int 2]) (rest := []) (els := [.int 2]) rfl rfl rfl rfl rfl rfl rfl rfl (by omega) ?_
              refine sp_m_isSheet (by omega) (fun _ _ _ => ?_) (fun q => absurd rfl (q 2 (by omega)))
              show am_wp L xs _ _ _ _ 11 [.ref 74, .int 3, .int x2, .int 2, .int x4, .int x5, am_du] [.int 1] (am_S b) (am_u h 73 1 (h 73 1 + 1)) _
              refine wp_if_t rfl (show ¬ (1 : Int32) = 0 from by decide) ?_
              refine wp_run 1 (pc' := 18) (ls' := [.ref 74, .int 3, .int x2, .int 2, .int x4, .int x5, am_du]) (st' := [.ref 74]) rfl ?_
              refine wp_getr 78 rfl rfl rfl ?_
              refine wp_run 1 (pc' := 22) (ls' := [.ref 74, .int 3, .int x2, .int 2, .int x4, .int x5, am_du]) (st' := [.int 3, .ref 78]) rfl ?_
              refine wp_ald (i := 3) (h 78 3) rfl rfl rfl rfl (by decide) rfl ?_
              refine wp_if_f rfl (show ¬ ((h 78 3) = 0) from (fun q => cqz0 (hob.trans q))) ?_
              refine wp_run 1 (pc' := 27) (ls' := [.ref 74, .int 3, .int x2, .int 2, .int x4, .int x5, am_du]) (st' := [.ref 74]) rfl ?_
              refine wp_getr 78 rfl rfl rfl ?_
              refine wp_run 1 (pc' := 31) (ls' := [.ref 74, .int 3, .int x2, .int 2, .int x4, .int x5, am_du]) (st' := [.int 2, .ref 78]) rfl ?_
              refine wp_ald (i := 2) (h 78 2) rfl rfl rfl rfl (by decide) rfl ?_
              refine wp_if_t rfl (show ¬ (h 78 2) = 0 from (fun q => cqz1 (hobB.trans q))) ?_
              refine wp_run 1 (pc' := 39) (ls' := [.ref 74, .int 3, .int x2, .int 2, .int x4, .int x5, am_du]) (st' := [.ref 74]) rfl ?_
              refine wp_getr 78 rfl rfl rfl ?_
              refine wp_run 1 (pc' := 43) (ls' := [.ref 74, .int 3, .int x2, .int 2, .int x4, .int x5, am_du]) (st' := [.int 3, .ref 78]) rfl ?_
              refine wp_ald (i := 3) (h 78 3) rfl rfl rfl rfl (by decide) rfl ?_
              refine wp_run 1 (pc' := 45) (ls' := [.ref 74, .int 3, .int x2, .int 2, .int x4, .int x5, am_du]) (st' := [.ref 74, .int (h 78 3)]) rfl ?_
              refine wp_getr 78 rfl rfl rfl ?_
              refine wp_run 1 (pc' := 49) (ls' := [.ref 74, .int 3, .int x2, .int 2, .int x4, .int x5, am_du]) (st' := [.int 2, .ref 78, .int (h 78 3)]) rfl ?_
              refine wp_ald (i := 2) (h 78 2) rfl rfl rfl rfl (by decide) rfl ?_
              refine wp_icmp_t rfl (show (h 78 3) = (h 78 2) from (hob.symm.trans (cqe.trans hobB))) ?_
              refine wp_run 1 (pc' := 58) (ls' := [.ref 74, .int 3, .int x2, .int 2, .int x4, .int x5, am_du]) (st' := [.int x5]) rfl ?_
              refine wp_if rfl (fun (cq58 : x5 < 0) => ?_) (fun (cq58 : ¬ (x5 < 0)) => ?_)
              · skip
                refine wp_run 3 (pc' := 106) (ls' := [.ref 74, .int 3, .int x2, .int 2, .int x4, .int x5, .int 0]) (st' := [.int 0]) rfl ?_
                refine wp_if_t rfl (show (0 : Int32) = 0 from by decide) ?_
                refine wp_run 1 (pc' := 115) (ls' := [.ref 74, .int 3, .int x2, .int 2, .int x4, .int x5, .int 0]) (st' := [.int (-1000000001)]) rfl ?_
                refine wp_ret rfl ?_
                show am_wp L xs _ _ _ _ 11 [.ref 74, .int 3, .int x2, .int 2, .int x4, .int x5, am_du, am_du, am_du] [.int (-1000000001)] (am_S b) (am_u h 73 1 (h 73 1 + 1)) _
                refine wp_run 2 (pc' := 15) (ls' := [.ref 74, .int 3, .int x2, .int 2, .int x4, .int x5, .int (-1000000001), am_du, am_du]) (st' := [.int (-1000000001)]) rfl ?_
                refine wp_if_f rfl (show ¬ (((-1000000001) : Int32) = 0) from by decide) ?_
                refine wp_run 2 (pc' := 21) (ls' := [.ref 74, .int 3, .int x2, .int 2, .int x4, .int x5, .int (-1000000001), am_du, am_du]) (st' := [.int (-1000000001), .ref 74]) rfl ?_
                refine wp_callV (o := 74) (as := [.int (-1000000001)]) (rest := []) (els := [.ref 74, .int (-1000000001)]) rfl rfl rfl rfl rfl rfl rfl rfl (by omega) ?_
                refine sp_error1 ?_
                show am_wp L xs _ _ _ _ 24 [.ref 74, .int 3, .int x2, .int 2, .int x4, .int x5, .int (-1000000001), am_du, am_du] [.int (-1000000001)] (am_S b) (am_u (am_u h 73 1 (h 73 1 + 1)) 77 1 ((am_u h 73 1 (h 73 1 + 1)) 77 1 + 1)) _
                refine wp_ret rfl ?_
                exact kk2 _ _ (re_err1 hR)
              · skip
                obtain ⟨k5, hk5, ek5⟩ := pu_nonneg (Int32.not_lt.mp cq58)
                subst ek5
                refine wp_run 1 (pc' := 62) (ls' := [.ref 74, .int 3, .int x2, .int 2, .int x4, .int (nI k5), am_du]) (st' := [.int x2]) rfl ?_
                refine wp_if rfl (fun (cq62 : x2 < 0) => ?_) (fun (cq62 : ¬ (x2 < 0)) => ?_)
                · skip
                  refine wp_run 3 (pc' := 106) (ls' := [.ref 74, .int 3, .int x2, .int 2, .int x4, .int (nI k5), .int 0]) (st' := [.int 0]) rfl ?_
                  refine wp_if_t rfl (show (0 : Int32) = 0 from by decide) ?_
                  refine wp_run 1 (pc' := 115) (ls' := [.ref 74, .int 3, .int x2, .int 2, .int x4, .int (nI k5), .int 0]) (st' := [.int (-1000000001)]) rfl ?_
                  refine wp_ret rfl ?_
                  show am_wp L xs _ _ _ _ 11 [.ref 74, .int 3, .int x2, .int 2, .int x4, .int (nI k5), am_du, am_du, am_du] [.int (-1000000001)] (am_S b) (am_u h 73 1 (h 73 1 + 1)) _
                  refine wp_run 2 (pc' := 15) (ls' := [.ref 74, .int 3, .int x2, .int 2, .int x4, .int (nI k5), .int (-1000000001), am_du, am_du]) (st' := [.int (-1000000001)]) rfl ?_
                  refine wp_if_f rfl (show ¬ (((-1000000001) : Int32) = 0) from by decide) ?_
                  refine wp_run 2 (pc' := 21) (ls' := [.ref 74, .int 3, .int x2, .int 2, .int x4, .int (nI k5), .int (-1000000001), am_du, am_du]) (st' := [.int (-1000000001), .ref 74]) rfl ?_
                  refine wp_callV (o := 74) (as := [.int (-1000000001)]) (rest := []) (els := [.ref 74, .int (-1000000001)]) rfl rfl rfl rfl rfl rfl rfl rfl (by omega) ?_
                  refine sp_error1 ?_
                  show am_wp L xs _ _ _ _ 24 [.ref 74, .int 3, .int x2, .int 2, .int x4, .int (nI k5), .int (-1000000001), am_du, am_du] [.int (-1000000001)] (am_S b) (am_u (am_u h 73 1 (h 73 1 + 1)) 77 1 ((am_u h 73 1 (h 73 1 + 1)) 77 1 + 1)) _
                  refine wp_ret rfl ?_
                  exact kk2 _ _ (re_err1 hR)
                · skip
                  obtain ⟨k2, hk2, ek2⟩ := pu_nonneg (Int32.not_lt.mp cq62)
                  subst ek2
                  refine wp_run 1 (pc' := 67) (ls' := [.ref 74, .int 3, .int (nI k2), .int 2, .int x4, .int (nI k5), am_du]) (st' := [.int x4]) rfl ?_
                  refine wp_if rfl (fun (cq67 : x4 < 0) => ?_) (fun (cq67 : ¬ (x4 < 0)) => ?_)
                  · skip
                    refine wp_run 3 (pc' := 106) (ls' := [.ref 74, .int 3, .int (nI k2), .int 2, .int x4, .int (nI k5), .int 0]) (st' := [.int 0]) rfl ?_
                    refine wp_if_t rfl (show (0 : Int32) = 0 from by decide) ?_
                    refine wp_run 1 (pc' := 115) (ls' := [.ref 74, .int 3, .int (nI k2), .int 2, .int x4, .int (nI k5), .int 0]) (st' := [.int (-1000000001)]) rfl ?_
                    refine wp_ret rfl ?_
                    show am_wp L xs _ _ _ _ 11 [.ref 74, .int 3, .int (nI k2), .int 2, .int x4, .int (nI k5), am_du, am_du, am_du] [.int (-1000000001)] (am_S b) (am_u h 73 1 (h 73 1 + 1)) _
                    refine wp_run 2 (pc' := 15) (ls' := [.ref 74, .int 3, .int (nI k2), .int 2, .int x4, .int (nI k5), .int (-1000000001), am_du, am_du]) (st' := [.int (-1000000001)]) rfl ?_
                    refine wp_if_f rfl (show ¬ (((-1000000001) : Int32) = 0) from by decide) ?_
                    refine wp_run 2 (pc' := 21) (ls' := [.ref 74, .int 3, .int (nI k2), .int 2, .int x4, .int (nI k5), .int (-1000000001), am_du, am_du]) (st' := [.int (-1000000001), .ref 74]) rfl ?_
                    refine wp_callV (o := 74) (as := [.int (-1000000001)]) (rest := []) (els := [.ref 74, .int (-1000000001)]) rfl rfl rfl rfl rfl rfl rfl rfl (by omega) ?_
                    refine sp_error1 ?_
                    show am_wp L xs _ _ _ _ 24 [.ref 74, .int 3, .int (nI k2), .int 2, .int x4, .int (nI k5), .int (-1000000001), am_du, am_du] [.int (-1000000001)] (am_S b) (am_u (am_u h 73 1 (h 73 1 + 1)) 77 1 ((am_u h 73 1 (h 73 1 + 1)) 77 1 + 1)) _
                    refine wp_ret rfl ?_
                    exact kk2 _ _ (re_err1 hR)
                  · skip
                    obtain ⟨k4, hk4, ek4⟩ := pu_nonneg (Int32.not_lt.mp cq67)
                    subst ek4
                    refine wp_run 2 (pc' := 73) (ls' := [.ref 74, .int 3, .int (nI k2), .int 2, .int (nI k4), .int (nI k5), am_du]) (st' := [.ref 74, .int (nI k5)]) rfl ?_
                    refine wp_getr 79 rfl rfl rfl ?_
                    refine wp_run 1 (pc' := 77) (ls' := [.ref 74, .int 3, .int (nI k2), .int 2, .int (nI k4), .int (nI k5), am_du]) (st' := [.int 3, .ref 79, .int (nI k5)]) rfl ?_
                    refine wp_ald (i := 3) (nI l) hz2 rfl rfl rfl (by decide) rfl ?_
                    refine wp_run 2 (pc' := 80) (ls' := [.ref 74, .int 3, .int (nI k2), .int 2, .int (nI k4), .int (nI k5), am_du]) (st' := [.int ((nI l) - (nI k2)), .int (nI k5)]) rfl ?_
                    refine wp_icmp_t rfl (show ((nI l) - (nI k2)) < (nI k5) from Int32.not_le.mp (fun q => hno1 k2 k5 rfl rfl (by have := (pu_suble (by omega) (by omega) hl24).mp q; omega))) ?_
                    refine wp_run 3 (pc' := 106) (ls' := [.ref 74, .int 3, .int (nI k2), .int 2, .int (nI k4), .int (nI k5), .int 0]) (st' := [.int 0]) rfl ?_
                    refine wp_if_t rfl (show (0 : Int32) = 0 from by decide) ?_
                    refine wp_run 1 (pc' := 115) (ls' := [.ref 74, .int 3, .int (nI k2), .int 2, .int (nI k4), .int (nI k5), .int 0]) (st' := [.int (-1000000001)]) rfl ?_
                    refine wp_ret rfl ?_
                    show am_wp L xs _ _ _ _ 11 [.ref 74, .int 3, .int (nI k2), .int 2, .int (nI k4), .int (nI k5), am_du, am_du, am_du] [.int (-1000000001)] (am_S b) (am_u h 73 1 (h 73 1 + 1)) _
                    refine wp_run 2 (pc' := 15) (ls' := [.ref 74, .int 3, .int (nI k2), .int 2, .int (nI k4), .int (nI k5), .int (-1000000001), am_du, am_du]) (st' := [.int (-1000000001)]) rfl ?_
                    refine wp_if_f rfl (show ¬ (((-1000000001) : Int32) = 0) from by decide) ?_
                    refine wp_run 2 (pc' := 21) (ls' := [.ref 74, .int 3, .int (nI k2), .int 2, .int (nI k4), .int (nI k5), .int (-1000000001), am_du, am_du]) (st' := [.int (-1000000001), .ref 74]) rfl ?_
                    refine wp_callV (o := 74) (as := [.int (-1000000001)]) (rest := []) (els := [.ref 74, .int (-1000000001)]) rfl rfl rfl rfl rfl rfl rfl rfl (by omega) ?_
                    refine sp_error1 ?_
                    show am_wp L xs _ _ _ _ 24 [.ref 74, .int 3, .int (nI k2), .int 2, .int (nI k4), .int (nI k5), .int (-1000000001), am_du, am_du] [.int (-1000000001)] (am_S b) (am_u (am_u h 73 1 (h 73 1 + 1)) 77 1 ((am_u h 73 1 (h 73 1 + 1)) 77 1 + 1)) _
                    refine wp_ret rfl ?_
                    exact kk2 _ _ (re_err1 hR)
          · skip
            refine wp_run 2 (pc' := 73) (ls' := [.ref 0, .int 3, .int x2, .int 2, .int x4, .int x5, .ref 71, .ref 69]) (st' := [.int 5, .ref 0]) rfl ?_
            refine wp_callV (o := 0) (as := [.int 5]) (rest := []) (els := [.ref 0, .int 5]) rfl rfl rfl rfl rfl rfl rfl rfl (by omega) ?_
            refine sp_refuse5 (by omega) ?_
            show am_wp L xs _ _ _ _ 76 [.ref 0, .int 3, .int x2, .int 2, .int x4, .int x5, .ref 71, .ref 69] [.int (-1000000005)] (am_S b) (am_u h 73 5 (h 73 5 + 1)) _
            refine wp_ret rfl ?_
            refine kk _ _ _ (fun ms2 Q2 kk2 => ?_)
            refine wp_run 6 (pc' := 8) (ls' := [.ref 74, .int 3, .int x2, .int 2, .int x4, .int x5, am_du, am_du, am_du]) (st' := [.int x5, .int x4, .int 2, .int x2, .int 3, .ref 74]) rfl ?_
            refine wp_callV (o := 74) (as := [.int 3, .int x2, .int 2, .int x4, .int x5]) (rest := []) (els := [.ref 74, .int 3, .int x2, .int 2, .int x4, .int x5, am_du]) rfl rfl rfl rfl rfl rfl rfl rfl (by omega) ?_
            refine wp_run 1 (pc' := 1) (ls' := [.ref 74, .int 3, .int x2, .int 2, .int x4, .int x5, am_du]) (st' := [.int 3]) rfl ?_
            refine wp_callS (as := [.int 3]) (rest := []) (els := [.int 3]) rfl rfl rfl rfl rfl rfl rfl rfl (by omega) ?_
            refine sp_m_isSheet (by omega) (fun _ _ _ => ?_) (fun q => absurd rfl (q 3 (by omega)))
            show am_wp L xs _ _ _ _ 4 [.ref 74, .int 3, .int x2, .int 2, .int x4, .int x5, am_du] [.int 1] (am_S b) (am_u h 73 5 (h 73 5 + 1)) _
            refine wp_if_f rfl (show ¬ ((1 : Int32) = 0) from by decide) ?_
            refine wp_run 1 (pc' := 8) (ls' := [.ref 74, .int 3, .int x2, .int 2, .int x4, .int x5, am_du]) (st' := [.int 2]) rfl ?_
            refine wp_callS (as := [.int 2]) (rest := []) (els := [.int 2]) rfl rfl rfl rfl rfl rfl rfl rfl (by omega) ?_
            refine sp_m_isSheet (by omega) (fun _ _ _ => ?_) (fun q => absurd rfl (q 2 (by omega)))
            show am_wp L xs _ _ _ _ 11 [.ref 74, .int 3, .int x2, .int 2, .int x4, .int x5, am_du] [.int 1] (am_S b) (am_u h 73 5 (h 73 5 + 1)) _
            refine wp_if_t rfl (show ¬ (1 : Int32) = 0 from by decide) ?_
            refine wp_run 1 (pc' := 18) (ls' := [.ref 74, .int 3, .int x2, .int 2, .int x4, .int x5, am_du]) (st' := [.ref 74]) rfl ?_
            refine wp_getr 78 rfl rfl rfl ?_
            refine wp_run 1 (pc' := 22) (ls' := [.ref 74, .int 3, .int x2, .int 2, .int x4, .int x5, am_du]) (st' := [.int 3, .ref 78]) rfl ?_
            refine wp_ald (i := 3) (h 78 3) rfl rfl rfl rfl (by decide) rfl ?_
            refine wp_if_f rfl (show ¬ ((h 78 3) = 0) from (fun q => cqz0 (hob.trans q))) ?_
            refine wp_run 1 (pc' := 27) (ls' := [.ref 74, .int 3, .int x2, .int 2, .int x4, .int x5, am_du]) (st' := [.ref 74]) rfl ?_
            refine wp_getr 78 rfl rfl rfl ?_
            refine wp_run 1 (pc' := 31) (ls' := [.ref 74, .int 3, .int x2, .int 2, .int x4, .int x5, am_du]) (st' := [.int 2, .ref 78]) rfl ?_
            refine wp_ald (i := 2) (h 78 2) rfl rfl rfl rfl (by decide) rfl ?_
            refine wp_if_t rfl (show ¬ (h 78 2) = 0 from (fun q => cqz1 (hobB.trans q))) ?_
            refine wp_run 1 (pc' := 39) (ls' := [.ref 74, .int 3, .int x2, .int 2, .int x4, .int x5, am_du]) (st' := [.ref 74]) rfl ?_
            refine wp_getr 78 rfl rfl rfl ?_
            refine wp_run 1 (pc' := 43) (ls' := [.ref 74, .int 3, .int x2, .int 2, .int x4, .int x5, am_du]) (st' := [.int 3, .ref 78]) rfl ?_
            refine wp_ald (i := 3) (h 78 3) rfl rfl rfl rfl (by decide) rfl ?_
            refine wp_run 1 (pc' := 45) (ls' := [.ref 74, .int 3, .int x2, .int 2, .int x4, .int x5, am_du]) (st' := [.ref 74, .int (h 78 3)]) rfl ?_
            refine wp_getr 78 rfl rfl rfl ?_
            refine wp_run 1 (pc' := 49) (ls' := [.ref 74, .int 3, .int x2, .int 2, .int x4, .int x5, am_du]) (st' := [.int 2, .ref 78, .int (h 78 3)]) rfl ?_
            refine wp_ald (i := 2) (h 78 2) rfl rfl rfl rfl (by decide) rfl ?_
            refine wp_icmp_f rfl (show ¬ ((h 78 3) = (h 78 2)) from (fun q => cqe (hob.trans (q.trans hobB.symm)))) ?_
            refine wp_run 1 (pc' := 55) (ls' := [.ref 74, .int 3, .int x2, .int 2, .int x4, .int x5, am_du]) (st' := [.int (-1000000005)]) rfl ?_
            refine wp_ret rfl ?_
            show am_wp L xs _ _ _ _ 11 [.ref 74, .int 3, .int x2, .int 2, .int x4, .int x5, am_du, am_du, am_du] [.int (-1000000005)] (am_S b) (am_u h 73 5 (h 73 5 + 1)) _
            refine wp_run 2 (pc' := 15) (ls' := [.ref 74, .int 3, .int x2, .int 2, .int x4, .int x5, .int (-1000000005), am_du, am_du]) (st' := [.int (-1000000005)]) rfl ?_
            refine wp_if_f rfl (show ¬ (((-1000000005) : Int32) = 0) from by decide) ?_
            refine wp_run 2 (pc' := 21) (ls' := [.ref 74, .int 3, .int x2, .int 2, .int x4, .int x5, .int (-1000000005), am_du, am_du]) (st' := [.int (-1000000005), .ref 74]) rfl ?_
            refine wp_callV (o := 74) (as := [.int (-1000000005)]) (rest := []) (els := [.ref 74, .int (-1000000005)]) rfl rfl rfl rfl rfl rfl rfl rfl (by omega) ?_
            refine sp_error5 ?_
            show am_wp L xs _ _ _ _ 24 [.ref 74, .int 3, .int x2, .int 2, .int x4, .int x5, .int (-1000000005), am_du, am_du] [.int (-1000000005)] (am_S b) (am_u (am_u h 73 5 (h 73 5 + 1)) 77 5 ((am_u h 73 5 (h 73 5 + 1)) 77 5 + 1)) _
            refine wp_ret rfl ?_
            exact kk2 _ _ (re_err5 hR)
        · skip
          replace cqz1 := Decidable.not_not.mp cqz1
          refine wp_run 2 (pc' := 12) (ls' := [.ref 69]) (st' := [.int 1]) rfl ?_
          refine wp_retz rfl (Or.inr rfl) ?_
          show am_wp L xs _ _ _ _ 49 [.ref 0, .int 3, .int x2, .int 2, .int x4, .int x5, .ref 71, .ref 69] [.int 1] (am_S b) h _
          refine wp_if_f rfl (show ¬ ((1 : Int32) = 0) from by decide) ?_
          refine wp_run 2 (pc' := 54) (ls' := [.ref 0, .int 3, .int x2, .int 2, .int x4, .int x5, .ref 71, .ref 69]) (st' := [.int 2, .ref 0]) rfl ?_
          refine wp_callV (o := 0) (as := [.int 2]) (rest := []) (els := [.ref 0, .int 2]) rfl rfl rfl rfl rfl rfl rfl rfl (by omega) ?_
          refine sp_refuse2 (by omega) ?_
          show am_wp L xs _ _ _ _ 57 [.ref 0, .int 3, .int x2, .int 2, .int x4, .int x5, .ref 71, .ref 69] [.int (-1000000002)] (am_S b) (am_u h 73 2 (h 73 2 + 1)) _
          refine wp_ret rfl ?_
          refine kk _ _ _ (fun ms2 Q2 kk2 => ?_)
          refine wp_run 6 (pc' := 8) (ls' := [.ref 74, .int 3, .int x2, .int 2, .int x4, .int x5, am_du, am_du, am_du]) (st' := [.int x5, .int x4, .int 2, .int x2, .int 3, .ref 74]) rfl ?_
          refine wp_callV (o := 74) (as := [.int 3, .int x2, .int 2, .int x4, .int x5]) (rest := []) (els := [.ref 74, .int 3, .int x2, .int 2, .int x4, .int x5, am_du]) rfl rfl rfl rfl rfl rfl rfl rfl (by omega) ?_
          refine wp_run 1 (pc' := 1) (ls' := [.ref 74, .int 3, .int x2, .int 2, .int x4, .int x5, am_du]) (st' := [.int 3]) rfl ?_
          refine wp_callS (as := [.int 3]) (rest := []) (els := [.int 3]) rfl rfl rfl rfl rfl rfl rfl rfl (by omega) ?_
          refine sp_m_isSheet (by omega) (fun _ _ _ => ?_) (fun q => absurd rfl (q 3 (by omega)))
          show am_wp L xs _ _ _ _ 4 [.ref 74, .int 3, .int x2, .int 2, .int x4, .int x5, am_du] [.int 1] (am_S b) (am_u h 73 2 (h 73 2 + 1)) _
          refine wp_if_f rfl (show ¬ ((1 : Int32) = 0) from by decide) ?_
          refine wp_run 1 (pc' := 8) (ls' := [.ref 74, .int 3, .int x2, .int 2, .int x4, .int x5, am_du]) (st' := [.int 2]) rfl ?_
          refine wp_callS (as := [.int 2]) (rest := []) (els := [.int 2]) rfl rfl rfl rfl rfl rfl rfl rfl (by omega) ?_
          refine sp_m_isSheet (by omega) (fun _ _ _ => ?_) (fun q => absurd rfl (q 2 (by omega)))
          show am_wp L xs _ _ _ _ 11 [.ref 74, .int 3, .int x2, .int 2, .int x4, .int x5, am_du] [.int 1] (am_S b) (am_u h 73 2 (h 73 2 + 1)) _
          refine wp_if_t rfl (show ¬ (1 : Int32) = 0 from by decide) ?_
          refine wp_run 1 (pc' := 18) (ls' := [.ref 74, .int 3, .int x2, .int 2, .int x4, .int x5, am_du]) (st' := [.ref 74]) rfl ?_
          refine wp_getr 78 rfl rfl rfl ?_
          refine wp_run 1 (pc' := 22) (ls' := [.ref 74, .int 3, .int x2, .int 2, .int x4, .int x5, am_du]) (st' := [.int 3, .ref 78]) rfl ?_
          refine wp_ald (i := 3) (h 78 3) rfl rfl rfl rfl (by decide) rfl ?_
          refine wp_if_f rfl (show ¬ ((h 78 3) = 0) from (fun q => cqz0 (hob.trans q))) ?_
          refine wp_run 1 (pc' := 27) (ls' := [.ref 74, .int 3, .int x2, .int 2, .int x4, .int x5, am_du]) (st' := [.ref 74]) rfl ?_
          refine wp_getr 78 rfl rfl rfl ?_
          refine wp_run 1 (pc' := 31) (ls' := [.ref 74, .int 3, .int x2, .int 2, .int x4, .int x5, am_du]) (st' := [.int 2, .ref 78]) rfl ?_
          refine wp_ald (i := 2) (h 78 2) rfl rfl rfl rfl (by decide) rfl ?_
          refine wp_if_f rfl (show ¬ (¬ (h 78 2) = 0) from (fun q => q (hobB.symm.trans cqz1))) ?_
          refine wp_run 1 (pc' := 37) (ls' := [.ref 74, .int 3, .int x2, .int 2, .int x4, .int x5, am_du]) (st' := [.int (-1000000002)]) rfl ?_
          refine wp_ret rfl ?_
          show am_wp L xs _ _ _ _ 11 [.ref 74, .int 3, .int x2, .int 2, .int x4, .int x5, am_du, am_du, am_du] [.int (-1000000002)] (am_S b) (am_u h 73 2 (h 73 2 + 1)) _
          refine wp_run 2 (pc' := 15) (ls' := [.ref 74, .int 3, .int x2, .int 2, .int x4, .int x5, .int (-1000000002), am_du, am_du]) (st' := [.int (-1000000002)]) rfl ?_
          refine wp_if_f rfl (show ¬ (((-1000000002) : Int32) = 0) from by decide) ?_
          refine wp_run 2 (pc' := 21) (ls' := [.ref 74, .int 3, .int x2, .int 2, .int x4, .int x5, .int (-1000000002), am_du, am_du]) (st' := [.int (-1000000002), .ref 74]) rfl ?_
          refine wp_callV (o := 74) (as := [.int (-1000000002)]) (rest := []) (els := [.ref 74, .int (-1000000002)]) rfl rfl rfl rfl rfl rfl rfl rfl (by omega) ?_
          refine sp_error2 ?_
          show am_wp L xs _ _ _ _ 24 [.ref 74, .int 3, .int x2, .int 2, .int x4, .int x5, .int (-1000000002), am_du, am_du] [.int (-1000000002)] (am_S b) (am_u (am_u h 73 2 (h 73 2 + 1)) 77 2 ((am_u h 73 2 (h 73 2 + 1)) 77 2 + 1)) _
          refine wp_ret rfl ?_
          exact kk2 _ _ (re_err2 hR)
      · skip
        replace cqz0 := Decidable.not_not.mp cqz0
        refine wp_run 2 (pc' := 12) (ls' := [.ref 71]) (st' := [.int 1]) rfl ?_
        refine wp_retz rfl (Or.inr rfl) ?_
        show am_wp L xs _ _ _ _ 41 [.ref 0, .int 3, .int x2, .int 2, .int x4, .int x5, .ref 71, .ref 69] [.int 1] (am_S b) h _
        refine wp_if_t rfl (show ¬ (1 : Int32) = 0 from by decide) ?_
        refine wp_run 2 (pc' := 54) (ls' := [.ref 0, .int 3, .int x2, .int 2, .int x4, .int x5, .ref 71, .ref 69]) (st' := [.int 2, .ref 0]) rfl ?_
        refine wp_callV (o := 0) (as := [.int 2]) (rest := []) (els := [.ref 0, .int 2]) rfl rfl rfl rfl rfl rfl rfl rfl (by omega) ?_
        refine sp_refuse2 (by omega) ?_
        show am_wp L xs _ _ _ _ 57 [.ref 0, .int 3, .int x2, .int 2, .int x4, .int x5, .ref 71, .ref 69] [.int (-1000000002)] (am_S b) (am_u h 73 2 (h 73 2 + 1)) _
        refine wp_ret rfl ?_
        refine kk _ _ _ (fun ms2 Q2 kk2 => ?_)
        refine wp_run 6 (pc' := 8) (ls' := [.ref 74, .int 3, .int x2, .int 2, .int x4, .int x5, am_du, am_du, am_du]) (st' := [.int x5, .int x4, .int 2, .int x2, .int 3, .ref 74]) rfl ?_
        refine wp_callV (o := 74) (as := [.int 3, .int x2, .int 2, .int x4, .int x5]) (rest := []) (els := [.ref 74, .int 3, .int x2, .int 2, .int x4, .int x5, am_du]) rfl rfl rfl rfl rfl rfl rfl rfl (by omega) ?_
        refine wp_run 1 (pc' := 1) (ls' := [.ref 74, .int 3, .int x2, .int 2, .int x4, .int x5, am_du]) (st' := [.int 3]) rfl ?_
        refine wp_callS (as := [.int 3]) (rest := []) (els := [.int 3]) rfl rfl rfl rfl rfl rfl rfl rfl (by omega) ?_
        refine sp_m_isSheet (by omega) (fun _ _ _ => ?_) (fun q => absurd rfl (q 3 (by omega)))
        show am_wp L xs _ _ _ _ 4 [.ref 74, .int 3, .int x2, .int 2, .int x4, .int x5, am_du] [.int 1] (am_S b) (am_u h 73 2 (h 73 2 + 1)) _
        refine wp_if_f rfl (show ¬ ((1 : Int32) = 0) from by decide) ?_
        refine wp_run 1 (pc' := 8) (ls' := [.ref 74, .int 3, .int x2, .int 2, .int x4, .int x5, am_du]) (st' := [.int 2]) rfl ?_
        refine wp_callS (as := [.int 2]) (rest := []) (els := [.int 2]) rfl rfl rfl rfl rfl rfl rfl rfl (by omega) ?_
        refine sp_m_isSheet (by omega) (fun _ _ _ => ?_) (fun q => absurd rfl (q 2 (by omega)))
        show am_wp L xs _ _ _ _ 11 [.ref 74, .int 3, .int x2, .int 2, .int x4, .int x5, am_du] [.int 1] (am_S b) (am_u h 73 2 (h 73 2 + 1)) _
        refine wp_if_t rfl (show ¬ (1 : Int32) = 0 from by decide) ?_
        refine wp_run 1 (pc' := 18) (ls' := [.ref 74, .int 3, .int x2, .int 2, .int x4, .int x5, am_du]) (st' := [.ref 74]) rfl ?_
        refine wp_getr 78 rfl rfl rfl ?_
        refine wp_run 1 (pc' := 22) (ls' := [.ref 74, .int 3, .int x2, .int 2, .int x4, .int x5, am_du]) (st' := [.int 3, .ref 78]) rfl ?_
        refine wp_ald (i := 3) (h 78 3) rfl rfl rfl rfl (by decide) rfl ?_
        refine wp_if_t rfl (show (h 78 3) = 0 from (hob.symm.trans cqz0)) ?_
        refine wp_run 1 (pc' := 37) (ls' := [.ref 74, .int 3, .int x2, .int 2, .int x4, .int x5, am_du]) (st' := [.int (-1000000002)]) rfl ?_
        refine wp_ret rfl ?_
        show am_wp L xs _ _ _ _ 11 [.ref 74, .int 3, .int x2, .int 2, .int x4, .int x5, am_du, am_du, am_du] [.int (-1000000002)] (am_S b) (am_u h 73 2 (h 73 2 + 1)) _
        refine wp_run 2 (pc' := 15) (ls' := [.ref 74, .int 3, .int x2, .int 2, .int x4, .int x5, .int (-1000000002), am_du, am_du]) (st' := [.int (-1000000002)]) rfl ?_
        refine wp_if_f rfl (show ¬ (((-1000000002) : Int32) = 0) from by decide) ?_
        refine wp_run 2 (pc' := 21) (ls' := [.ref 74, .int 3, .int x2, .int 2, .int x4, .int x5, .int (-1000000002), am_du, am_du]) (st' := [.int (-1000000002), .ref 74]) rfl ?_
        refine wp_callV (o := 74) (as := [.int (-1000000002)]) (rest := []) (els := [.ref 74, .int (-1000000002)]) rfl rfl rfl rfl rfl rfl rfl rfl (by omega) ?_
        refine sp_error2 ?_
        show am_wp L xs _ _ _ _ 24 [.ref 74, .int 3, .int x2, .int 2, .int x4, .int x5, .int (-1000000002), am_du, am_du] [.int (-1000000002)] (am_S b) (am_u (am_u h 73 2 (h 73 2 + 1)) 77 2 ((am_u h 73 2 (h 73 2 + 1)) 77 2 + 1)) _
        refine wp_ret rfl ?_
        exact kk2 _ _ (re_err2 hR)
    · skip
      intro ex3
      subst ex3
      show am_wp L xs _ _ _ _ 11 [.ref 0, .int 3, .int x2, .int 3, .int x4, .int x5, am_du, am_du] [.int 1] (am_S b) h _
      refine wp_if_t rfl (show ¬ (1 : Int32) = 0 from by decide) ?_
      obtain ⟨l, hl24, ho2, hz2, hob, hbb, hri⟩ := id hS3
      refine wp_run 1 (pc' := 21) (ls' := [.ref 0, .int 3, .int x2, .int 3, .int x4, .int x5, am_du, am_du]) (st' := [.ref 0]) rfl ?_
      refine wp_getr 64 rfl rfl rfl ?_
      refine wp_run 1 (pc' := 25) (ls' := [.ref 0, .int 3, .int x2, .int 3, .int x4, .int x5, am_du, am_du]) (st' := [.int 3, .ref 64]) rfl ?_
      refine wp_aald (r := 71) rfl rfl (Or.inr rfl) rfl (by decide) rfl rfl ?_
      refine wp_run 2 (pc' := 29) (ls' := [.ref 0, .int 3, .int x2, .int 3, .int x4, .int x5, .ref 71, am_du]) (st' := [.ref 0]) rfl ?_
      refine wp_getr 64 rfl rfl rfl ?_
      refine wp_run 1 (pc' := 33) (ls' := [.ref 0, .int 3, .int x2, .int 3, .int x4, .int x5, .ref 71, am_du]) (st' := [.int 3, .ref 64]) rfl ?_
      refine wp_aald (r := 71) rfl rfl (Or.inr rfl) rfl (by decide) rfl rfl ?_
      refine wp_run 2 (pc' := 38) (ls' := [.ref 0, .int 3, .int x2, .int 3, .int x4, .int x5, .ref 71, .ref 71]) (st' := [.ref 71]) rfl ?_
      refine wp_callV (o := 71) (as := []) (rest := []) (els := [.ref 71]) rfl rfl rfl rfl rfl rfl rfl rfl (by omega) ?_
      refine wp_run 1 (pc' := 1) (ls' := [.ref 71]) (st' := [.ref 71]) rfl ?_
      refine wp_geti (a := 1) (h 71 1) rfl rfl rfl rfl ?_
      refine wp_if rfl (fun (cqz0 : ¬ (h 71 1) = 0) => ?_) (fun (cqz0 : ¬ (¬ (h 71 1) = 0)) => ?_)
      · skip
        refine wp_run 1 (pc' := 12) (ls' := [.ref 71]) (st' := [.int 0]) rfl ?_
        refine wp_retz rfl (Or.inl rfl) ?_
        show am_wp L xs _ _ _ _ 41 [.ref 0, .int 3, .int x2, .int 3, .int x4, .int x5, .ref 71, .ref 71] [.int 0] (am_S b) h _
        refine wp_if_f rfl (show ¬ (¬ (0 : Int32) = 0) from by decide) ?_
        refine wp_run 1 (pc' := 46) (ls' := [.ref 0, .int 3, .int x2, .int 3, .int x4, .int x5, .ref 71, .ref 71]) (st' := [.ref 71]) rfl ?_
        refine wp_callV (o := 71) (as := []) (rest := []) (els := [.ref 71]) rfl rfl rfl rfl rfl rfl rfl rfl (by omega) ?_
        refine wp_run 1 (pc' := 1) (ls' := [.ref 71]) (st' := [.ref 71]) rfl ?_
        refine wp_geti (a := 1) (h 71 1) rfl rfl rfl rfl ?_
        refine wp_if_t rfl (show ¬ (h 71 1) = 0 from cqz0) ?_
        refine wp_run 1 (pc' := 12) (ls' := [.ref 71]) (st' := [.int 0]) rfl ?_
        refine wp_retz rfl (Or.inl rfl) ?_
        show am_wp L xs _ _ _ _ 49 [.ref 0, .int 3, .int x2, .int 3, .int x4, .int x5, .ref 71, .ref 71] [.int 0] (am_S b) h _
        refine wp_if_t rfl (show (0 : Int32) = 0 from by decide) ?_
        refine wp_run 1 (pc' := 60) (ls' := [.ref 0, .int 3, .int x2, .int 3, .int x4, .int x5, .ref 71, .ref 71]) (st' := [.ref 71]) rfl ?_
        refine wp_geti (a := 1) (h 71 1) rfl rfl rfl rfl ?_
        refine wp_run 1 (pc' := 65) (ls' := [.ref 0, .int 3, .int x2, .int 3, .int x4, .int x5, .ref 71, .ref 71]) (st' := [.ref 71, .int (h 71 1)]) rfl ?_
        refine wp_geti (a := 1) (h 71 1) rfl rfl rfl rfl ?_
        refine wp_icmp_t rfl (show (h 71 1) = (h 71 1) from rfl) ?_
        refine wp_run 3 (pc' := 82) (ls' := [.ref 0, .int 3, .int x2, .int 3, .int x4, .int x5, .ref 71, .ref 71]) (st' := [.int x5, .int x2, .ref 71]) rfl ?_
        refine wp_callV (o := 71) (as := [.int x2, .int x5]) (rest := []) (els := [.ref 71, .int x2, .int x5]) rfl rfl rfl rfl rfl rfl rfl rfl (by omega) ?_
        refine sp_holds (h := h) (o := 71) (l := l) rfl ho2 hl24 (by omega) ?_ ?_
        · skip
          intro k2 k5 e5 e2 hle1
          subst e5
          subst e2
          show am_wp L xs _ _ _ _ 85 [.ref 0, .int 3, .int (nI k2), .int 3, .int x4, .int (nI k5), .ref 71, .ref 71] [.int 1] (am_S b) h _
          refine wp_if_f rfl (show ¬ ((1 : Int32) = 0) from by decide) ?_
          refine wp_run 3 (pc' := 94) (ls' := [.ref 0, .int 3, .int (nI k2), .int 3, .int x4, .int (nI k5), .ref 71, .ref 71]) (st' := [.int (nI k5), .int x4, .ref 71]) rfl ?_
          refine wp_callV (o := 71) (as := [.int x4, .int (nI k5)]) (rest := []) (els := [.ref 71, .int x4, .int (nI k5)]) rfl rfl rfl rfl rfl rfl rfl rfl (by omega) ?_
          refine sp_holds (h := h) (o := 71) (l := l) rfl ho2 hl24 (by omega) ?_ ?_
          · skip
            intro k4 n4 q1 e4 hle2
            have en := pu_inj (by omega) (by omega) q1
            subst en
            subst e4
            show am_wp L xs _ _ _ _ 97 [.ref 0, .int 3, .int (nI k2), .int 3, .int (nI k4), .int (nI k5), .ref 71, .ref 71] [.int 1] (am_S b) h _
            refine wp_if_t rfl (show ¬ (1 : Int32) = 0 from by decide) ?_
            refine wp_run 1 (pc' := 108) (ls' := [.ref 0, .int 3, .int (nI k2), .int 3, .int (nI k4), .int (nI k5), .ref 71, .ref 71]) (st' := [.ref 71]) rfl ?_
            refine wp_getr 72 rfl rfl rfl ?_
            refine wp_run 2 (pc' := 114) (ls' := [.ref 0, .int 3, .int (nI k2), .int 3, .int (nI k4), .int (nI k5), .ref 71, .ref 71]) (st' := [.ref 71, .int (nI k2), .ref 72]) rfl ?_
            refine wp_getr 72 rfl rfl rfl ?_
            refine wp_run 2 (pc' := 121) (ls' := [.ref 0, .int 3, .int (nI k2), .int 3, .int (nI k4), .int (nI k5), .ref 71, .ref 71]) (st' := [.int (nI k5), .int (nI k4), .ref 72, .int (nI k2), .ref 72]) rfl ?_
            refine wp_copy (q := 72) (o := 72) (sp := k2) (dp := k4) (n := k5) rfl rfl rfl rfl rfl rfl (by omega) (by omega) (by omega) (by omega) rfl (by omega) ?_
            refine wp_run 1 (pc' := 126) (ls' := [.ref 0, .int 3, .int (nI k2), .int 3, .int (nI k4), .int (nI k5), .ref 71, .ref 71]) (st' := [.int (nI k5)]) rfl ?_
            refine wp_ret rfl ?_
            refine kk _ _ _ (fun ms2 Q2 kk2 => ?_)
            refine wp_run 6 (pc' := 8) (ls' := [.ref 74, .int 3, .int (nI k2), .int 3, .int (nI k4), .int (nI k5), am_du, am_du, am_du]) (st' := [.int (nI k5), .int (nI k4), .int 3, .int (nI k2), .int 3, .ref 74]) rfl ?_
            refine wp_callV (o := 74) (as := [.int 3, .int (nI k2), .int 3, .int (nI k4), .int (nI k5)]) (rest := []) (els := [.ref 74, .int 3, .int (nI k2), .int 3, .int (nI k4), .int (nI k5), am_du]) rfl rfl rfl rfl rfl rfl rfl rfl (by omega) ?_
            refine wp_run 1 (pc' := 1) (ls' := [.ref 74, .int 3, .int (nI k2), .int 3, .int (nI k4), .int (nI k5), am_du]) (st' := [.int 3]) rfl ?_
            refine wp_callS (as := [.int 3]) (rest := []) (els := [.int 3]) rfl rfl rfl rfl rfl rfl rfl rfl (by omega) ?_
            refine sp_m_isSheet (by omega) (fun _ _ _ => ?_) (fun q => absurd rfl (q 3 (by omega)))
            show am_wp L xs _ _ _ _ 4 [.ref 74, .int 3, .int (nI k2), .int 3, .int (nI k4), .int (nI k5), am_du] [.int 1] (am_S b) (am_ur h 72 (va_cpy (h 72) (h 72) k2 k4 k5)) _
            refine wp_if_f rfl (show ¬ ((1 : Int32) = 0) from by decide) ?_
            refine wp_run 1 (pc' := 8) (ls' := [.ref 74, .int 3, .int (nI k2), .int 3, .int (nI k4), .int (nI k5), am_du]) (st' := [.int 3]) rfl ?_
            refine wp_callS (as := [.int 3]) (rest := []) (els := [.int 3]) rfl rfl rfl rfl rfl rfl rfl rfl (by omega) ?_
            refine sp_m_isSheet (by omega) (fun _ _ _ => ?_) (fun q => absurd rfl (q 3 (by omega)))
            show am_wp L xs _ _ _ _ 11 [.ref 74, .int 3, .int (nI k2), .int 3, .int (nI k4), .int (nI k5), am_du] [.int 1] (am_S b) (am_ur h 72 (va_cpy (h 72) (h 72) k2 k4 k5)) _
            refine wp_if_t rfl (show ¬ (1 : Int32) = 0 from by decide) ?_
            refine wp_run 1 (pc' := 18) (ls' := [.ref 74, .int 3, .int (nI k2), .int 3, .int (nI k4), .int (nI k5), am_du]) (st' := [.ref 74]) rfl ?_
            refine wp_getr 78 rfl rfl rfl ?_
            refine wp_run 1 (pc' := 22) (ls' := [.ref 74, .int 3, .int (nI k2), .int 3, .int (nI k4), .int (nI k5), am_du]) (st' := [.int 3, .ref 78]) rfl ?_
            refine wp_ald (i := 3) (h 78 3) rfl rfl rfl rfl (by decide) rfl ?_
            refine wp_if_f rfl (show ¬ ((h 78 3) = 0) from (fun q => cqz0 (hob.trans q))) ?_
            refine wp_run 1 (pc' := 27) (ls' := [.ref 74, .int 3, .int (nI k2), .int 3, .int (nI k4), .int (nI k5), am_du]) (st' := [.ref 74]) rfl ?_
            refine wp_getr 78 rfl rfl rfl ?_
            refine wp_run 1 (pc' := 31) (ls' := [.ref 74, .int 3, .int (nI k2), .int 3, .int (nI k4), .int (nI k5), am_du]) (st' := [.int 3, .ref 78]) rfl ?_
            refine wp_ald (i := 3) (h 78 3) rfl rfl rfl rfl (by decide) rfl ?_
            refine wp_if_t rfl (show ¬ (h 78 3) = 0 from (fun q => cqz0 (hob.trans q))) ?_
            refine wp_run 1 (pc' := 39) (ls' := [.ref 74, .int 3, .int (nI k2), .int 3, .int (nI k4), .int (nI k5), am_du]) (st' := [.ref 74]) rfl ?_
            refine wp_getr 78 rfl rfl rfl ?_
            refine wp_run 1 (pc' := 43) (ls' := [.ref 74, .int 3, .int (nI k2), .int 3, .int (nI k4), .int (nI k5), am_du]) (st' := [.int 3, .ref 78]) rfl ?_
            refine wp_ald (i := 3) (h 78 3) rfl rfl rfl rfl (by decide) rfl ?_
            refine wp_run 1 (pc' := 45) (ls' := [.ref 74, .int 3, .int (nI k2), .int 3, .int (nI k4), .int (nI k5), am_du]) (st' := [.ref 74, .int (h 78 3)]) rfl ?_
            refine wp_getr 78 rfl rfl rfl ?_
            refine wp_run 1 (pc' := 49) (ls' := [.ref 74, .int 3, .int (nI k2), .int 3, .int (nI k4), .int (nI k5), am_du]) (st' := [.int 3, .ref 78, .int (h 78 3)]) rfl ?_
            refine wp_ald (i := 3) (h 78 3) rfl rfl rfl rfl (by decide) rfl ?_
            refine wp_icmp_t rfl (show (h 78 3) = (h 78 3) from rfl) ?_
            refine wp_run 1 (pc' := 58) (ls' := [.ref 74, .int 3, .int (nI k2), .int 3, .int (nI k4), .int (nI k5), am_du]) (st' := [.int (nI k5)]) rfl ?_
            refine wp_if_f rfl (show ¬ ((nI k5) < 0) from mt (nI_ltI (a := k5) (b := 0) (by omega) (by omega)).mp (by omega)) ?_
            refine wp_run 1 (pc' := 62) (ls' := [.ref 74, .int 3, .int (nI k2), .int 3, .int (nI k4), .int (nI k5), am_du]) (st' := [.int (nI k2)]) rfl ?_
            refine wp_if_f rfl (show ¬ ((nI k2) < 0) from mt (nI_ltI (a := k2) (b := 0) (by omega) (by omega)).mp (by omega)) ?_
            refine wp_run 1 (pc' := 67) (ls' := [.ref 74, .int 3, .int (nI k2), .int 3, .int (nI k4), .int (nI k5), am_du]) (st' := [.int (nI k4)]) rfl ?_
            refine wp_if_f rfl (show ¬ ((nI k4) < 0) from mt (nI_ltI (a := k4) (b := 0) (by omega) (by omega)).mp (by omega)) ?_
            refine wp_run 2 (pc' := 73) (ls' := [.ref 74, .int 3, .int (nI k2), .int 3, .int (nI k4), .int (nI k5), am_du]) (st' := [.ref 74, .int (nI k5)]) rfl ?_
            refine wp_getr 79 rfl rfl rfl ?_
            refine wp_run 1 (pc' := 77) (ls' := [.ref 74, .int 3, .int (nI k2), .int 3, .int (nI k4), .int (nI k5), am_du]) (st' := [.int 3, .ref 79, .int (nI k5)]) rfl ?_
            refine wp_ald (i := 3) (nI l) hz2 rfl rfl rfl (by decide) rfl ?_
            refine wp_run 2 (pc' := 80) (ls' := [.ref 74, .int 3, .int (nI k2), .int 3, .int (nI k4), .int (nI k5), am_du]) (st' := [.int ((nI l) - (nI k2)), .int (nI k5)]) rfl ?_
            refine wp_icmp_f rfl (show ¬ (((nI l) - (nI k2)) < (nI k5)) from Int32.not_lt.mpr ((pu_suble (by omega) (by omega) hl24).mpr (by omega))) ?_
            refine wp_run 2 (pc' := 86) (ls' := [.ref 74, .int 3, .int (nI k2), .int 3, .int (nI k4), .int (nI k5), am_du]) (st' := [.ref 74, .int (nI k5)]) rfl ?_
            refine wp_getr 79 rfl rfl rfl ?_
            refine wp_run 1 (pc' := 90) (ls' := [.ref 74, .int 3, .int (nI k2), .int 3, .int (nI k4), .int (nI k5), am_du]) (st' := [.int 3, .ref 79, .int (nI k5)]) rfl ?_
            refine wp_ald (i := 3) (nI l) hz2 rfl rfl rfl (by decide) rfl ?_
            refine wp_run 2 (pc' := 94) (ls' := [.ref 74, .int 3, .int (nI k2), .int 3, .int (nI k4), .int (nI k5), am_du]) (st' := [.int ((nI l) - (nI k4)), .int (nI k5)]) rfl ?_
            refine wp_icmp_f rfl (show ¬ (((nI l) - (nI k4)) < (nI k5)) from Int32.not_lt.mpr ((pu_suble (by omega) (by omega) hl24).mpr (by omega))) ?_
            refine wp_run 4 (pc' := 106) (ls' := [.ref 74, .int 3, .int (nI k2), .int 3, .int (nI k4), .int (nI k5), .int 1]) (st' := [.int 1]) rfl ?_
            refine wp_if_f rfl (show ¬ ((1 : Int32) = 0) from by decide) ?_
            refine wp_run 2 (pc' := 115) (ls' := [.ref 74, .int 3, .int (nI k2), .int 3, .int (nI k4), .int (nI k5), .int 1]) (st' := [.int 0]) rfl ?_
            refine wp_ret rfl ?_
            show am_wp L xs _ _ _ _ 11 [.ref 74, .int 3, .int (nI k2), .int 3, .int (nI k4), .int (nI k5), am_du, am_du, am_du] [.int 0] (am_S b) (am_ur h 72 (va_cpy (h 72) (h 72) k2 k4 k5)) _
            refine wp_run 2 (pc' := 15) (ls' := [.ref 74, .int 3, .int (nI k2), .int 3, .int (nI k4), .int (nI k5), .int 0, am_du, am_du]) (st' := [.int 0]) rfl ?_
            refine wp_if_t rfl (show (0 : Int32) = 0 from by decide) ?_
            refine wp_run 2 (pc' := 28) (ls' := [.ref 74, .int 3, .int (nI k2), .int 3, .int (nI k4), .int (nI k5), .int 0, .int 0, am_du]) (st' := []) rfl ?_
            by_cases hij : k2 < k4
            · have hp := lp_mvd (L := L) (xs := xs) (d := d) (ms := ms2) (b := b) (h := (am_ur h 72 (va_cpy (h 72) (h 72) k2 k4 k5))) (Q := Q2) (s := 3) (o := 3) (i := k2) (j := k4) (n := k5) (by omega) (by omega) (by omega) (by omega) hij (by omega) ?_ k5 0 am_du (by omega)
              · rw [mv_d0] at hp; exact hp
              · exact kk2 _ _ ⟨⟨n, c, t, tp, wt, s0, s1, p0, p1, H⟩, re_im_s hI, hE, (re_sh_mo hS0 (by decide) (by omega)), (re_sh_mo hS1 (by decide) (by omega)), (re_sh_mo hS2 (by decide) (by omega)), (re_sh_m hS3 hS3 (by omega) (by omega)), hT⟩
            · have hp := lp_mva (L := L) (xs := xs) (d := d) (ms := ms2) (b := b) (h := (am_ur h 72 (va_cpy (h 72) (h 72) k2 k4 k5))) (Q := Q2) (s := 3) (o := 3) (i := k2) (j := k4) (n := k5) (by omega) (by omega) (by omega) (by omega) hij (by omega) ?_ k5 0 am_du (by omega)
              · rw [mv_a0] at hp; exact hp
              · exact kk2 _ _ ⟨⟨n, c, t, tp, wt, s0, s1, p0, p1, H⟩, re_im_s hI, hE, (re_sh_mo hS0 (by decide) (by omega)), (re_sh_mo hS1 (by decide) (by omega)), (re_sh_mo hS2 (by decide) (by omega)), (re_sh_m hS3 hS3 (by omega) (by omega)), hT⟩
          · skip
            intro hno2
            show am_wp L xs _ _ _ _ 97 [.ref 0, .int 3, .int (nI k2), .int 3, .int x4, .int (nI k5), .ref 71, .ref 71] [.int 0] (am_S b) h _
            refine wp_if_f rfl (show ¬ (¬ (0 : Int32) = 0) from by decide) ?_
            refine wp_run 2 (pc' := 102) (ls' := [.ref 0, .int 3, .int (nI k2), .int 3, .int x4, .int (nI k5), .ref 71, .ref 71]) (st' := [.int 1, .ref 0]) rfl ?_
            refine wp_callV (o := 0) (as := [.int 1]) (rest := []) (els := [.ref 0, .int 1]) rfl rfl rfl rfl rfl rfl rfl rfl (by omega) ?_
            refine sp_refuse1 (by omega) ?_
            show am_wp L xs _ _ _ _ 105 [.ref 0, .int 3, .int (nI k2), .int 3, .int x4, .int (nI k5), .ref 71, .ref 71] [.int (-1000000001)] (am_S b) (am_u h 73 1 (h 73 1 + 1)) _
            refine wp_ret rfl ?_
            refine kk _ _ _ (fun ms2 Q2 kk2 => ?_)
            refine wp_run 6 (pc' := 8) (ls' := [.ref 74, .int 3, .int (nI k2), .int 3, .int x4, .int (nI k5), am_du, am_du, am_du]) (st' := [.int (nI k5), .int x4, .int 3, .int (nI k2), .int 3, .ref 74]) rfl ?_
            refine wp_callV (o := 74) (as := [.int 3, .int (nI k2), .int 3, .int x4, .int (nI k5)]) (rest := []) (els := [.ref 74, .int 3, .int (nI k2), .int 3, .int x4, .int (nI k5), am_du]) rfl rfl rfl rfl rfl rfl rfl rfl (by omega) ?_
            refine wp_run 1 (pc' := 1) (ls' := [.ref 74, .int 3, .int (nI k2), .int 3, .int x4, .int (nI k5), am_du]) (st' := [.int 3]) rfl ?_
            refine wp_callS (as := [.int 3]) (rest := []) (els := [.int 3]) rfl rfl rfl rfl rfl rfl rfl rfl (by omega) ?_
            refine sp_m_isSheet (by omega) (fun _ _ _ => ?_) (fun q => absurd rfl (q 3 (by omega)))
            show am_wp L xs _ _ _ _ 4 [.ref 74, .int 3, .int (nI k2), .int 3, .int x4, .int (nI k5), am_du] [.int 1] (am_S b) (am_u h 73 1 (h 73 1 + 1)) _
            refine wp_if_f rfl (show ¬ ((1 : Int32) = 0) from by decide) ?_
            refine wp_run 1 (pc' := 8) (ls' := [.ref 74, .int 3, .int (nI k2), .int 3, .int x4, .int (nI k5), am_du]) (st' := [.int 3]) rfl ?_
            refine wp_callS (as := [.int 3]) (rest := []) (els := [.int 3]) rfl rfl rfl rfl rfl rfl rfl rfl (by omega) ?_
            refine sp_m_isSheet (by omega) (fun _ _ _ => ?_) (fun q => absurd rfl (q 3 (by omega)))
            show am_wp L xs _ _ _ _ 11 [.ref 74, .int 3, .int (nI k2), .int 3, .int x4, .int (nI k5), am_du] [.int 1] (am_S b) (am_u h 73 1 (h 73 1 + 1)) _
            refine wp_if_t rfl (show ¬ (1 : Int32) = 0 from by decide) ?_
            refine wp_run 1 (pc' := 18) (ls' := [.ref 74, .int 3, .int (nI k2), .int 3, .int x4, .int (nI k5), am_du]) (st' := [.ref 74]) rfl ?_
            refine wp_getr 78 rfl rfl rfl ?_
            refine wp_run 1 (pc' := 22) (ls' := [.ref 74, .int 3, .int (nI k2), .int 3, .int x4, .int (nI k5), am_du]) (st' := [.int 3, .ref 78]) rfl ?_
            refine wp_ald (i := 3) (h 78 3) rfl rfl rfl rfl (by decide) rfl ?_
            refine wp_if_f rfl (show ¬ ((h 78 3) = 0) from (fun q => cqz0 (hob.trans q))) ?_
            refine wp_run 1 (pc' := 27) (ls' := [.ref 74, .int 3, .int (nI k2), .int 3, .int x4, .int (nI k5), am_du]) (st' := [.ref 74]) rfl ?_
            refine wp_getr 78 rfl rfl rfl ?_
            refine wp_run 1 (pc' := 31) (ls' := [.ref 74, .int 3, .int (nI k2), .int 3, .int x4, .int (nI k5), am_du]) (st' := [.int 3, .ref 78]) rfl ?_
            refine wp_ald (i := 3) (h 78 3) rfl rfl rfl rfl (by decide) rfl ?_
            refine wp_if_t rfl (show ¬ (h 78 3) = 0 from (fun q => cqz0 (hob.trans q))) ?_
            refine wp_run 1 (pc' := 39) (ls' := [.ref 74, .int 3, .int (nI k2), .int 3, .int x4, .int (nI k5), am_du]) (st' := [.ref 74]) rfl ?_
            refine wp_getr 78 rfl rfl rfl ?_
            refine wp_run 1 (pc' := 43) (ls' := [.ref 74, .int 3, .int (nI k2), .int 3, .int x4, .int (nI k5), am_du]) (st' := [.int 3, .ref 78]) rfl ?_
            refine wp_ald (i := 3) (h 78 3) rfl rfl rfl rfl (by decide) rfl ?_
            refine wp_run 1 (pc' := 45) (ls' := [.ref 74, .int 3, .int (nI k2), .int 3, .int x4, .int (nI k5), am_du]) (st' := [.ref 74, .int (h 78 3)]) rfl ?_
            refine wp_getr 78 rfl rfl rfl ?_
            refine wp_run 1 (pc' := 49) (ls' := [.ref 74, .int 3, .int (nI k2), .int 3, .int x4, .int (nI k5), am_du]) (st' := [.int 3, .ref 78, .int (h 78 3)]) rfl ?_
            refine wp_ald (i := 3) (h 78 3) rfl rfl rfl rfl (by decide) rfl ?_
            refine wp_icmp_t rfl (show (h 78 3) = (h 78 3) from rfl) ?_
            refine wp_run 1 (pc' := 58) (ls' := [.ref 74, .int 3, .int (nI k2), .int 3, .int x4, .int (nI k5), am_du]) (st' := [.int (nI k5)]) rfl ?_
            refine wp_if_f rfl (show ¬ ((nI k5) < 0) from mt (nI_ltI (a := k5) (b := 0) (by omega) (by omega)).mp (by omega)) ?_
            refine wp_run 1 (pc' := 62) (ls' := [.ref 74, .int 3, .int (nI k2), .int 3, .int x4, .int (nI k5), am_du]) (st' := [.int (nI k2)]) rfl ?_
            refine wp_if_f rfl (show ¬ ((nI k2) < 0) from mt (nI_ltI (a := k2) (b := 0) (by omega) (by omega)).mp (by omega)) ?_
            refine wp_run 1 (pc' := 67) (ls' := [.ref 74, .int 3, .int (nI k2), .int 3, .int x4, .int (nI k5), am_du]) (st' := [.int x4]) rfl ?_
            refine wp_if rfl (fun (cq67 : x4 < 0) => ?_) (fun (cq67 : ¬ (x4 < 0)) => ?_)
            · skip
              refine wp_run 3 (pc' := 106) (ls' := [.ref 74, .int 3, .int (nI k2), .int 3, .int x4, .int (nI k5), .int 0]) (st' := [.int 0]) rfl ?_
              refine wp_if_t rfl (show (0 : Int32) = 0 from by decide) ?_
              refine wp_run 1 (pc' := 115) (ls' := [.ref 74, .int 3, .int (nI k2), .int 3, .int x4, .int (nI k5), .int 0]) (st' := [.int (-1000000001)]) rfl ?_
              refine wp_ret rfl ?_
              show am_wp L xs _ _ _ _ 11 [.ref 74, .int 3, .int (nI k2), .int 3, .int x4, .int (nI k5), am_du, am_du, am_du] [.int (-1000000001)] (am_S b) (am_u h 73 1 (h 73 1 + 1)) _
              refine wp_run 2 (pc' := 15) (ls' := [.ref 74, .int 3, .int (nI k2), .int 3, .int x4, .int (nI k5), .int (-1000000001), am_du, am_du]) (st' := [.int (-1000000001)]) rfl ?_
              refine wp_if_f rfl (show ¬ (((-1000000001) : Int32) = 0) from by decide) ?_
              refine wp_run 2 (pc' := 21) (ls' := [.ref 74, .int 3, .int (nI k2), .int 3, .int x4, .int (nI k5), .int (-1000000001), am_du, am_du]) (st' := [.int (-1000000001), .ref 74]) rfl ?_
              refine wp_callV (o := 74) (as := [.int (-1000000001)]) (rest := []) (els := [.ref 74, .int (-1000000001)]) rfl rfl rfl rfl rfl rfl rfl rfl (by omega) ?_
              refine sp_error1 ?_
              show am_wp L xs _ _ _ _ 24 [.ref 74, .int 3, .int (nI k2), .int 3, .int x4, .int (nI k5), .int (-1000000001), am_du, am_du] [.int (-1000000001)] (am_S b) (am_u (am_u h 73 1 (h 73 1 + 1)) 77 1 ((am_u h 73 1 (h 73 1 + 1)) 77 1 + 1)) _
              refine wp_ret rfl ?_
              exact kk2 _ _ (re_err1 hR)
            · skip
              obtain ⟨k4, hk4, ek4⟩ := pu_nonneg (Int32.not_lt.mp cq67)
              subst ek4
              refine wp_run 2 (pc' := 73) (ls' := [.ref 74, .int 3, .int (nI k2), .int 3, .int (nI k4), .int (nI k5), am_du]) (st' := [.ref 74, .int (nI k5)]) rfl ?_
              refine wp_getr 79 rfl rfl rfl ?_
              refine wp_run 1 (pc' := 77) (ls' := [.ref 74, .int 3, .int (nI k2), .int 3, .int (nI k4), .int (nI k5), am_du]) (st' := [.int 3, .ref 79, .int (nI k5)]) rfl ?_
              refine wp_ald (i := 3) (nI l) hz2 rfl rfl rfl (by decide) rfl ?_
              refine wp_run 2 (pc' := 80) (ls' := [.ref 74, .int 3, .int (nI k2), .int 3, .int (nI k4), .int (nI k5), am_du]) (st' := [.int ((nI l) - (nI k2)), .int (nI k5)]) rfl ?_
              refine wp_icmp_f rfl (show ¬ (((nI l) - (nI k2)) < (nI k5)) from Int32.not_lt.mpr ((pu_suble (by omega) (by omega) hl24).mpr (by omega))) ?_
              refine wp_run 2 (pc' := 86) (ls' := [.ref 74, .int 3, .int (nI k2), .int 3, .int (nI k4), .int (nI k5), am_du]) (st' := [.ref 74, .int (nI k5)]) rfl ?_
              refine wp_getr 79 rfl rfl rfl ?_
              refine wp_run 1 (pc' := 90) (ls' := [.ref 74, .int 3, .int (nI k2), .int 3, .int (nI k4), .int (nI k5), am_du]) (st' := [.int 3, .ref 79, .int (nI k5)]) rfl ?_
              refine wp_ald (i := 3) (nI l) hz2 rfl rfl rfl (by decide) rfl ?_
              refine wp_run 2 (pc' := 94) (ls' := [.ref 74, .int 3, .int (nI k2), .int 3, .int (nI k4), .int (nI k5), am_du]) (st' := [.int ((nI l) - (nI k4)), .int (nI k5)]) rfl ?_
              refine wp_icmp_t rfl (show ((nI l) - (nI k4)) < (nI k5) from Int32.not_le.mp (fun q => hno2 k4 k5 rfl rfl (by have := (pu_suble (by omega) (by omega) hl24).mp q; omega))) ?_
              refine wp_run 3 (pc' := 106) (ls' := [.ref 74, .int 3, .int (nI k2), .int 3, .int (nI k4), .int (nI k5), .int 0]) (st' := [.int 0]) rfl ?_
              refine wp_if_t rfl (show (0 : Int32) = 0 from by decide) ?_
              refine wp_run 1 (pc' := 115) (ls' := [.ref 74, .int 3, .int (nI k2), .int 3, .int (nI k4), .int (nI k5), .int 0]) (st' := [.int (-1000000001)]) rfl ?_
              refine wp_ret rfl ?_
              show am_wp L xs _ _ _ _ 11 [.ref 74, .int 3, .int (nI k2), .int 3, .int (nI k4), .int (nI k5), am_du, am_du, am_du] [.int (-1000000001)] (am_S b) (am_u h 73 1 (h 73 1 + 1)) _
              refine wp_run 2 (pc' := 15) (ls' := [.ref 74, .int 3, .int (nI k2), .int 3, .int (nI k4), .int (nI k5), .int (-1000000001), am_du, am_du]) (st' := [.int (-1000000001)]) rfl ?_
              refine wp_if_f rfl (show ¬ (((-1000000001) : Int32) = 0) from by decide) ?_
              refine wp_run 2 (pc' := 21) (ls' := [.ref 74, .int 3, .int (nI k2), .int 3, .int (nI k4), .int (nI k5), .int (-1000000001), am_du, am_du]) (st' := [.int (-1000000001), .ref 74]) rfl ?_
              refine wp_callV (o := 74) (as := [.int (-1000000001)]) (rest := []) (els := [.ref 74, .int (-1000000001)]) rfl rfl rfl rfl rfl rfl rfl rfl (by omega) ?_
              refine sp_error1 ?_
              show am_wp L xs _ _ _ _ 24 [.ref 74, .int 3, .int (nI k2), .int 3, .int (nI k4), .int (nI k5), .int (-1000000001), am_du, am_du] [.int (-1000000001)] (am_S b) (am_u (am_u h 73 1 (h 73 1 + 1)) 77 1 ((am_u h 73 1 (h 73 1 + 1)) 77 1 + 1)) _
              refine wp_ret rfl ?_
              exact kk2 _ _ (re_err1 hR)
        · skip
          intro hno1
          show am_wp L xs _ _ _ _ 85 [.ref 0, .int 3, .int x2, .int 3, .int x4, .int x5, .ref 71, .ref 71] [.int 0] (am_S b) h _
          refine wp_if_t rfl (show (0 : Int32) = 0 from by decide) ?_
          refine wp_run 2 (pc' := 102) (ls' := [.ref 0, .int 3, .int x2, .int 3, .int x4, .int x5, .ref 71, .ref 71]) (st' := [.int 1, .ref 0]) rfl ?_
          refine wp_callV (o := 0) (as := [.int 1]) (rest := []) (els := [.ref 0, .int 1]) rfl rfl rfl rfl rfl rfl rfl rfl (by omega) ?_
          refine sp_refuse1 (by omega) ?_
          show am_wp L xs _ _ _ _ 105 [.ref 0, .int 3, .int x2, .int 3, .int x4, .int x5, .ref 71, .ref 71] [.int (-1000000001)] (am_S b) (am_u h 73 1 (h 73 1 + 1)) _
          refine wp_ret rfl ?_
          refine kk _ _ _ (fun ms2 Q2 kk2 => ?_)
          refine wp_run 6 (pc' := 8) (ls' := [.ref 74, .int 3, .int x2, .int 3, .int x4, .int x5, am_du, am_du, am_du]) (st' := [.int x5, .int x4, .int 3, .int x2, .int 3, .ref 74]) rfl ?_
          refine wp_callV (o := 74) (as := [.int 3, .int x2, .int 3, .int x4, .int x5]) (rest := []) (els := [.ref 74, .int 3, .int x2, .int 3, .int x4, .int x5, am_du]) rfl rfl rfl rfl rfl rfl rfl rfl (by omega) ?_
          refine wp_run 1 (pc' := 1) (ls' := [.ref 74, .int 3, .int x2, .int 3, .int x4, .int x5, am_du]) (st' := [.int 3]) rfl ?_
          refine wp_callS (as := [.int 3]) (rest := []) (els := [.int 3]) rfl rfl rfl rfl rfl rfl rfl rfl (by omega) ?_
          refine sp_m_isSheet (by omega) (fun _ _ _ => ?_) (fun q => absurd rfl (q 3 (by omega)))
          show am_wp L xs _ _ _ _ 4 [.ref 74, .int 3, .int x2, .int 3, .int x4, .int x5, am_du] [.int 1] (am_S b) (am_u h 73 1 (h 73 1 + 1)) _
          refine wp_if_f rfl (show ¬ ((1 : Int32) = 0) from by decide) ?_
          refine wp_run 1 (pc' := 8) (ls' := [.ref 74, .int 3, .int x2, .int 3, .int x4, .int x5, am_du]) (st' := [.int 3]) rfl ?_
          refine wp_callS (as := [.int 3]) (rest := []) (els := [.int 3]) rfl rfl rfl rfl rfl rfl rfl rfl (by omega) ?_
          refine sp_m_isSheet (by omega) (fun _ _ _ => ?_) (fun q => absurd rfl (q 3 (by omega)))
          show am_wp L xs _ _ _ _ 11 [.ref 74, .int 3, .int x2, .int 3, .int x4, .int x5, am_du] [.int 1] (am_S b) (am_u h 73 1 (h 73 1 + 1)) _
          refine wp_if_t rfl (show ¬ (1 : Int32) = 0 from by decide) ?_
          refine wp_run 1 (pc' := 18) (ls' := [.ref 74, .int 3, .int x2, .int 3, .int x4, .int x5, am_du]) (st' := [.ref 74]) rfl ?_
          refine wp_getr 78 rfl rfl rfl ?_
          refine wp_run 1 (pc' := 22) (ls' := [.ref 74, .int 3, .int x2, .int 3, .int x4, .int x5, am_du]) (st' := [.int 3, .ref 78]) rfl ?_
          refine wp_ald (i := 3) (h 78 3) rfl rfl rfl rfl (by decide) rfl ?_
          refine wp_if_f rfl (show ¬ ((h 78 3) = 0) from (fun q => cqz0 (hob.trans q))) ?_
          refine wp_run 1 (pc' := 27) (ls' := [.ref 74, .int 3, .int x2, .int 3, .int x4, .int x5, am_du]) (st' := [.ref 74]) rfl ?_
          refine wp_getr 78 rfl rfl rfl ?_
          refine wp_run 1 (pc' := 31) (ls' := [.ref 74, .int 3, .int x2, .int 3, .int x4, .int x5, am_du]) (st' := [.int 3, .ref 78]) rfl ?_
          refine wp_ald (i := 3) (h 78 3) rfl rfl rfl rfl (by decide) rfl ?_
          refine wp_if_t rfl (show ¬ (h 78 3) = 0 from (fun q => cqz0 (hob.trans q))) ?_
          refine wp_run 1 (pc' := 39) (ls' := [.ref 74, .int 3, .int x2, .int 3, .int x4, .int x5, am_du]) (st' := [.ref 74]) rfl ?_
          refine wp_getr 78 rfl rfl rfl ?_
          refine wp_run 1 (pc' := 43) (ls' := [.ref 74, .int 3, .int x2, .int 3, .int x4, .int x5, am_du]) (st' := [.int 3, .ref 78]) rfl ?_
          refine wp_ald (i := 3) (h 78 3) rfl rfl rfl rfl (by decide) rfl ?_
          refine wp_run 1 (pc' := 45) (ls' := [.ref 74, .int 3, .int x2, .int 3, .int x4, .int x5, am_du]) (st' := [.ref 74, .int (h 78 3)]) rfl ?_
          refine wp_getr 78 rfl rfl rfl ?_
          refine wp_run 1 (pc' := 49) (ls' := [.ref 74, .int 3, .int x2, .int 3, .int x4, .int x5, am_du]) (st' := [.int 3, .ref 78, .int (h 78 3)]) rfl ?_
          refine wp_ald (i := 3) (h 78 3) rfl rfl rfl rfl (by decide) rfl ?_
          refine wp_icmp_t rfl (show (h 78 3) = (h 78 3) from rfl) ?_
          refine wp_run 1 (pc' := 58) (ls' := [.ref 74, .int 3, .int x2, .int 3, .int x4, .int x5, am_du]) (st' := [.int x5]) rfl ?_
          refine wp_if rfl (fun (cq58 : x5 < 0) => ?_) (fun (cq58 : ¬ (x5 < 0)) => ?_)
          · skip
            refine wp_run 3 (pc' := 106) (ls' := [.ref 74, .int 3, .int x2, .int 3, .int x4, .int x5, .int 0]) (st' := [.int 0]) rfl ?_
            refine wp_if_t rfl (show (0 : Int32) = 0 from by decide) ?_
            refine wp_run 1 (pc' := 115) (ls' := [.ref 74, .int 3, .int x2, .int 3, .int x4, .int x5, .int 0]) (st' := [.int (-1000000001)]) rfl ?_
            refine wp_ret rfl ?_
            show am_wp L xs _ _ _ _ 11 [.ref 74, .int 3, .int x2, .int 3, .int x4, .int x5, am_du, am_du, am_du] [.int (-1000000001)] (am_S b) (am_u h 73 1 (h 73 1 + 1)) _
            refine wp_run 2 (pc' := 15) (ls' := [.ref 74, .int 3, .int x2, .int 3, .int x4, .int x5, .int (-1000000001), am_du, am_du]) (st' := [.int (-1000000001)]) rfl ?_
            refine wp_if_f rfl (show ¬ (((-1000000001) : Int32) = 0) from by decide) ?_
            refine wp_run 2 (pc' := 21) (ls' := [.ref 74, .int 3, .int x2, .int 3, .int x4, .int x5, .int (-1000000001), am_du, am_du]) (st' := [.int (-1000000001), .ref 74]) rfl ?_
            refine wp_callV (o := 74) (as := [.int (-1000000001)]) (rest := []) (els := [.ref 74, .int (-1000000001)]) rfl rfl rfl rfl rfl rfl rfl rfl (by omega) ?_
            refine sp_error1 ?_
            show am_wp L xs _ _ _ _ 24 [.ref 74, .int 3, .int x2, .int 3, .int x4, .int x5, .int (-1000000001), am_du, am_du] [.int (-1000000001)] (am_S b) (am_u (am_u h 73 1 (h 73 1 + 1)) 77 1 ((am_u h 73 1 (h 73 1 + 1)) 77 1 + 1)) _
            refine wp_ret rfl ?_
            exact kk2 _ _ (re_err1 hR)
          · skip
            obtain ⟨k5, hk5, ek5⟩ := pu_nonneg (Int32.not_lt.mp cq58)
            subst ek5
            refine wp_run 1 (pc' := 62) (ls' := [.ref 74, .int 3, .int x2, .int 3, .int x4, .int (nI k5), am_du]) (st' := [.int x2]) rfl ?_
            refine wp_if rfl (fun (cq62 : x2 < 0) => ?_) (fun (cq62 : ¬ (x2 < 0)) => ?_)
            · skip
              refine wp_run 3 (pc' := 106) (ls' := [.ref 74, .int 3, .int x2, .int 3, .int x4, .int (nI k5), .int 0]) (st' := [.int 0]) rfl ?_
              refine wp_if_t rfl (show (0 : Int32) = 0 from by decide) ?_
              refine wp_run 1 (pc' := 115) (ls' := [.ref 74, .int 3, .int x2, .int 3, .int x4, .int (nI k5), .int 0]) (st' := [.int (-1000000001)]) rfl ?_
              refine wp_ret rfl ?_
              show am_wp L xs _ _ _ _ 11 [.ref 74, .int 3, .int x2, .int 3, .int x4, .int (nI k5), am_du, am_du, am_du] [.int (-1000000001)] (am_S b) (am_u h 73 1 (h 73 1 + 1)) _
              refine wp_run 2 (pc' := 15) (ls' := [.ref 74, .int 3, .int x2, .int 3, .int x4, .int (nI k5), .int (-1000000001), am_du, am_du]) (st' := [.int (-1000000001)]) rfl ?_
              refine wp_if_f rfl (show ¬ (((-1000000001) : Int32) = 0) from by decide) ?_
              refine wp_run 2 (pc' := 21) (ls' := [.ref 74, .int 3, .int x2, .int 3, .int x4, .int (nI k5), .int (-1000000001), am_du, am_du]) (st' := [.int (-1000000001), .ref 74]) rfl ?_
              refine wp_callV (o := 74) (as := [.int (-1000000001)]) (rest := []) (els := [.ref 74, .int (-1000000001)]) rfl rfl rfl rfl rfl rfl rfl rfl (by omega) ?_
              refine sp_error1 ?_
              show am_wp L xs _ _ _ _ 24 [.ref 74, .int 3, .int x2, .int 3, .int x4, .int (nI k5), .int (-1000000001), am_du, am_du] [.int (-1000000001)] (am_S b) (am_u (am_u h 73 1 (h 73 1 + 1)) 77 1 ((am_u h 73 1 (h 73 1 + 1)) 77 1 + 1)) _
              refine wp_ret rfl ?_
              exact kk2 _ _ (re_err1 hR)
            · skip
              obtain ⟨k2, hk2, ek2⟩ := pu_nonneg (Int32.not_lt.mp cq62)
              subst ek2
              refine wp_run 1 (pc' := 67) (ls' := [.ref 74, .int 3, .int (nI k2), .int 3, .int x4, .int (nI k5), am_du]) (st' := [.int x4]) rfl ?_
              refine wp_if rfl (fun (cq67 : x4 < 0) => ?_) (fun (cq67 : ¬ (x4 < 0)) => ?_)
              · skip
                refine wp_run 3 (pc' := 106) (ls' := [.ref 74, .int 3, .int (nI k2), .int 3, .int x4, .int (nI k5), .int 0]) (st' := [.int 0]) rfl ?_
                refine wp_if_t rfl (show (0 : Int32) = 0 from by decide) ?_
                refine wp_run 1 (pc' := 115) (ls' := [.ref 74, .int 3, .int (nI k2), .int 3, .int x4, .int (nI k5), .int 0]) (st' := [.int (-1000000001)]) rfl ?_
                refine wp_ret rfl ?_
                show am_wp L xs _ _ _ _ 11 [.ref 74, .int 3, .int (nI k2), .int 3, .int x4, .int (nI k5), am_du, am_du, am_du] [.int (-1000000001)] (am_S b) (am_u h 73 1 (h 73 1 + 1)) _
                refine wp_run 2 (pc' := 15) (ls' := [.ref 74, .int 3, .int (nI k2), .int 3, .int x4, .int (nI k5), .int (-1000000001), am_du, am_du]) (st' := [.int (-1000000001)]) rfl ?_
                refine wp_if_f rfl (show ¬ (((-1000000001) : Int32) = 0) from by decide) ?_
                refine wp_run 2 (pc' := 21) (ls' := [.ref 74, .int 3, .int (nI k2), .int 3, .int x4, .int (nI k5), .int (-1000000001), am_du, am_du]) (st' := [.int (-1000000001), .ref 74]) rfl ?_
                refine wp_callV (o := 74) (as := [.int (-1000000001)]) (rest := []) (els := [.ref 74, .int (-1000000001)]) rfl rfl rfl rfl rfl rfl rfl rfl (by omega) ?_
                refine sp_error1 ?_
                show am_wp L xs _ _ _ _ 24 [.ref 74, .int 3, .int (nI k2), .int 3, .int x4, .int (nI k5), .int (-1000000001), am_du, am_du] [.int (-1000000001)] (am_S b) (am_u (am_u h 73 1 (h 73 1 + 1)) 77 1 ((am_u h 73 1 (h 73 1 + 1)) 77 1 + 1)) _
                refine wp_ret rfl ?_
                exact kk2 _ _ (re_err1 hR)
              · skip
                obtain ⟨k4, hk4, ek4⟩ := pu_nonneg (Int32.not_lt.mp cq67)
                subst ek4
                refine wp_run 2 (pc' := 73) (ls' := [.ref 74, .int 3, .int (nI k2), .int 3, .int (nI k4), .int (nI k5), am_du]) (st' := [.ref 74, .int (nI k5)]) rfl ?_
                refine wp_getr 79 rfl rfl rfl ?_
                refine wp_run 1 (pc' := 77) (ls' := [.ref 74, .int 3, .int (nI k2), .int 3, .int (nI k4), .int (nI k5), am_du]) (st' := [.int 3, .ref 79, .int (nI k5)]) rfl ?_
                refine wp_ald (i := 3) (nI l) hz2 rfl rfl rfl (by decide) rfl ?_
                refine wp_run 2 (pc' := 80) (ls' := [.ref 74, .int 3, .int (nI k2), .int 3, .int (nI k4), .int (nI k5), am_du]) (st' := [.int ((nI l) - (nI k2)), .int (nI k5)]) rfl ?_
                refine wp_icmp_t rfl (show ((nI l) - (nI k2)) < (nI k5) from Int32.not_le.mp (fun q => hno1 k2 k5 rfl rfl (by have := (pu_suble (by omega) (by omega) hl24).mp q; omega))) ?_
                refine wp_run 3 (pc' := 106) (ls' := [.ref 74, .int 3, .int (nI k2), .int 3, .int (nI k4), .int (nI k5), .int 0]) (st' := [.int 0]) rfl ?_
                refine wp_if_t rfl (show (0 : Int32) = 0 from by decide) ?_
                refine wp_run 1 (pc' := 115) (ls' := [.ref 74, .int 3, .int (nI k2), .int 3, .int (nI k4), .int (nI k5), .int 0]) (st' := [.int (-1000000001)]) rfl ?_
                refine wp_ret rfl ?_
                show am_wp L xs _ _ _ _ 11 [.ref 74, .int 3, .int (nI k2), .int 3, .int (nI k4), .int (nI k5), am_du, am_du, am_du] [.int (-1000000001)] (am_S b) (am_u h 73 1 (h 73 1 + 1)) _
                refine wp_run 2 (pc' := 15) (ls' := [.ref 74, .int 3, .int (nI k2), .int 3, .int (nI k4), .int (nI k5), .int (-1000000001), am_du, am_du]) (st' := [.int (-1000000001)]) rfl ?_
                refine wp_if_f rfl (show ¬ (((-1000000001) : Int32) = 0) from by decide) ?_
                refine wp_run 2 (pc' := 21) (ls' := [.ref 74, .int 3, .int (nI k2), .int 3, .int (nI k4), .int (nI k5), .int (-1000000001), am_du, am_du]) (st' := [.int (-1000000001), .ref 74]) rfl ?_
                refine wp_callV (o := 74) (as := [.int (-1000000001)]) (rest := []) (els := [.ref 74, .int (-1000000001)]) rfl rfl rfl rfl rfl rfl rfl rfl (by omega) ?_
                refine sp_error1 ?_
                show am_wp L xs _ _ _ _ 24 [.ref 74, .int 3, .int (nI k2), .int 3, .int (nI k4), .int (nI k5), .int (-1000000001), am_du, am_du] [.int (-1000000001)] (am_S b) (am_u (am_u h 73 1 (h 73 1 + 1)) 77 1 ((am_u h 73 1 (h 73 1 + 1)) 77 1 + 1)) _
                refine wp_ret rfl ?_
                exact kk2 _ _ (re_err1 hR)
      · skip
        replace cqz0 := Decidable.not_not.mp cqz0
        refine wp_run 2 (pc' := 12) (ls' := [.ref 71]) (st' := [.int 1]) rfl ?_
        refine wp_retz rfl (Or.inr rfl) ?_
        show am_wp L xs _ _ _ _ 41 [.ref 0, .int 3, .int x2, .int 3, .int x4, .int x5, .ref 71, .ref 71] [.int 1] (am_S b) h _
        refine wp_if_t rfl (show ¬ (1 : Int32) = 0 from by decide) ?_
        refine wp_run 2 (pc' := 54) (ls' := [.ref 0, .int 3, .int x2, .int 3, .int x4, .int x5, .ref 71, .ref 71]) (st' := [.int 2, .ref 0]) rfl ?_
        refine wp_callV (o := 0) (as := [.int 2]) (rest := []) (els := [.ref 0, .int 2]) rfl rfl rfl rfl rfl rfl rfl rfl (by omega) ?_
        refine sp_refuse2 (by omega) ?_
        show am_wp L xs _ _ _ _ 57 [.ref 0, .int 3, .int x2, .int 3, .int x4, .int x5, .ref 71, .ref 71] [.int (-1000000002)] (am_S b) (am_u h 73 2 (h 73 2 + 1)) _
        refine wp_ret rfl ?_
        refine kk _ _ _ (fun ms2 Q2 kk2 => ?_)
        refine wp_run 6 (pc' := 8) (ls' := [.ref 74, .int 3, .int x2, .int 3, .int x4, .int x5, am_du, am_du, am_du]) (st' := [.int x5, .int x4, .int 3, .int x2, .int 3, .ref 74]) rfl ?_
        refine wp_callV (o := 74) (as := [.int 3, .int x2, .int 3, .int x4, .int x5]) (rest := []) (els := [.ref 74, .int 3, .int x2, .int 3, .int x4, .int x5, am_du]) rfl rfl rfl rfl rfl rfl rfl rfl (by omega) ?_
        refine wp_run 1 (pc' := 1) (ls' := [.ref 74, .int 3, .int x2, .int 3, .int x4, .int x5, am_du]) (st' := [.int 3]) rfl ?_
        refine wp_callS (as := [.int 3]) (rest := []) (els := [.int 3]) rfl rfl rfl rfl rfl rfl rfl rfl (by omega) ?_
        refine sp_m_isSheet (by omega) (fun _ _ _ => ?_) (fun q => absurd rfl (q 3 (by omega)))
        show am_wp L xs _ _ _ _ 4 [.ref 74, .int 3, .int x2, .int 3, .int x4, .int x5, am_du] [.int 1] (am_S b) (am_u h 73 2 (h 73 2 + 1)) _
        refine wp_if_f rfl (show ¬ ((1 : Int32) = 0) from by decide) ?_
        refine wp_run 1 (pc' := 8) (ls' := [.ref 74, .int 3, .int x2, .int 3, .int x4, .int x5, am_du]) (st' := [.int 3]) rfl ?_
        refine wp_callS (as := [.int 3]) (rest := []) (els := [.int 3]) rfl rfl rfl rfl rfl rfl rfl rfl (by omega) ?_
        refine sp_m_isSheet (by omega) (fun _ _ _ => ?_) (fun q => absurd rfl (q 3 (by omega)))
        show am_wp L xs _ _ _ _ 11 [.ref 74, .int 3, .int x2, .int 3, .int x4, .int x5, am_du] [.int 1] (am_S b) (am_u h 73 2 (h 73 2 + 1)) _
        refine wp_if_t rfl (show ¬ (1 : Int32) = 0 from by decide) ?_
        refine wp_run 1 (pc' := 18) (ls' := [.ref 74, .int 3, .int x2, .int 3, .int x4, .int x5, am_du]) (st' := [.ref 74]) rfl ?_
        refine wp_getr 78 rfl rfl rfl ?_
        refine wp_run 1 (pc' := 22) (ls' := [.ref 74, .int 3, .int x2, .int 3, .int x4, .int x5, am_du]) (st' := [.int 3, .ref 78]) rfl ?_
        refine wp_ald (i := 3) (h 78 3) rfl rfl rfl rfl (by decide) rfl ?_
        refine wp_if_t rfl (show (h 78 3) = 0 from (hob.symm.trans cqz0)) ?_
        refine wp_run 1 (pc' := 37) (ls' := [.ref 74, .int 3, .int x2, .int 3, .int x4, .int x5, am_du]) (st' := [.int (-1000000002)]) rfl ?_
        refine wp_ret rfl ?_
        show am_wp L xs _ _ _ _ 11 [.ref 74, .int 3, .int x2, .int 3, .int x4, .int x5, am_du, am_du, am_du] [.int (-1000000002)] (am_S b) (am_u h 73 2 (h 73 2 + 1)) _
        refine wp_run 2 (pc' := 15) (ls' := [.ref 74, .int 3, .int x2, .int 3, .int x4, .int x5, .int (-1000000002), am_du, am_du]) (st' := [.int (-1000000002)]) rfl ?_
        refine wp_if_f rfl (show ¬ (((-1000000002) : Int32) = 0) from by decide) ?_
        refine wp_run 2 (pc' := 21) (ls' := [.ref 74, .int 3, .int x2, .int 3, .int x4, .int x5, .int (-1000000002), am_du, am_du]) (st' := [.int (-1000000002), .ref 74]) rfl ?_
        refine wp_callV (o := 74) (as := [.int (-1000000002)]) (rest := []) (els := [.ref 74, .int (-1000000002)]) rfl rfl rfl rfl rfl rfl rfl rfl (by omega) ?_
        refine sp_error2 ?_
        show am_wp L xs _ _ _ _ 24 [.ref 74, .int 3, .int x2, .int 3, .int x4, .int x5, .int (-1000000002), am_du, am_du] [.int (-1000000002)] (am_S b) (am_u (am_u h 73 2 (h 73 2 + 1)) 77 2 ((am_u h 73 2 (h 73 2 + 1)) 77 2 + 1)) _
        refine wp_ret rfl ?_
        exact kk2 _ _ (re_err2 hR)
    · skip
      intro hnx3
      show am_wp L xs _ _ _ _ 11 [.ref 0, .int 3, .int x2, .int x3, .int x4, .int x5, am_du, am_du] [.int 0] (am_S b) h _
      refine wp_if_f rfl (show ¬ (¬ (0 : Int32) = 0) from by decide) ?_
      refine wp_run 2 (pc' := 16) (ls' := [.ref 0, .int 3, .int x2, .int x3, .int x4, .int x5, am_du, am_du]) (st' := [.int 1, .ref 0]) rfl ?_
      refine wp_callV (o := 0) (as := [.int 1]) (rest := []) (els := [.ref 0, .int 1]) rfl rfl rfl rfl rfl rfl rfl rfl (by omega) ?_
      refine sp_refuse1 (by omega) ?_
      show am_wp L xs _ _ _ _ 19 [.ref 0, .int 3, .int x2, .int x3, .int x4, .int x5, am_du, am_du] [.int (-1000000001)] (am_S b) (am_u h 73 1 (h 73 1 + 1)) _
      refine wp_ret rfl ?_
      refine kk _ _ _ (fun ms2 Q2 kk2 => ?_)
      refine wp_run 6 (pc' := 8) (ls' := [.ref 74, .int 3, .int x2, .int x3, .int x4, .int x5, am_du, am_du, am_du]) (st' := [.int x5, .int x4, .int x3, .int x2, .int 3, .ref 74]) rfl ?_
      refine wp_callV (o := 74) (as := [.int 3, .int x2, .int x3, .int x4, .int x5]) (rest := []) (els := [.ref 74, .int 3, .int x2, .int x3, .int x4, .int x5, am_du]) rfl rfl rfl rfl rfl rfl rfl rfl (by omega) ?_
      refine wp_run 1 (pc' := 1) (ls' := [.ref 74, .int 3, .int x2, .int x3, .int x4, .int x5, am_du]) (st' := [.int 3]) rfl ?_
      refine wp_callS (as := [.int 3]) (rest := []) (els := [.int 3]) rfl rfl rfl rfl rfl rfl rfl rfl (by omega) ?_
      refine sp_m_isSheet (by omega) (fun _ _ _ => ?_) (fun q => absurd rfl (q 3 (by omega)))
      show am_wp L xs _ _ _ _ 4 [.ref 74, .int 3, .int x2, .int x3, .int x4, .int x5, am_du] [.int 1] (am_S b) (am_u h 73 1 (h 73 1 + 1)) _
      refine wp_if_f rfl (show ¬ ((1 : Int32) = 0) from by decide) ?_
      refine wp_run 1 (pc' := 8) (ls' := [.ref 74, .int 3, .int x2, .int x3, .int x4, .int x5, am_du]) (st' := [.int x3]) rfl ?_
      refine wp_callS (as := [.int x3]) (rest := []) (els := [.int x3]) rfl rfl rfl rfl rfl rfl rfl rfl (by omega) ?_
      refine sp_m_isSheet (by omega) (fun k hk e => absurd e (hnx3 k hk)) (fun _ => ?_)
      show am_wp L xs _ _ _ _ 11 [.ref 74, .int 3, .int x2, .int x3, .int x4, .int x5, am_du] [.int 0] (am_S b) (am_u h 73 1 (h 73 1 + 1)) _
      refine wp_if_f rfl (show ¬ (¬ (0 : Int32) = 0) from by decide) ?_
      refine wp_run 1 (pc' := 16) (ls' := [.ref 74, .int 3, .int x2, .int x3, .int x4, .int x5, am_du]) (st' := [.int (-1000000001)]) rfl ?_
      refine wp_ret rfl ?_
      show am_wp L xs _ _ _ _ 11 [.ref 74, .int 3, .int x2, .int x3, .int x4, .int x5, am_du, am_du, am_du] [.int (-1000000001)] (am_S b) (am_u h 73 1 (h 73 1 + 1)) _
      refine wp_run 2 (pc' := 15) (ls' := [.ref 74, .int 3, .int x2, .int x3, .int x4, .int x5, .int (-1000000001), am_du, am_du]) (st' := [.int (-1000000001)]) rfl ?_
      refine wp_if_f rfl (show ¬ (((-1000000001) : Int32) = 0) from by decide) ?_
      refine wp_run 2 (pc' := 21) (ls' := [.ref 74, .int 3, .int x2, .int x3, .int x4, .int x5, .int (-1000000001), am_du, am_du]) (st' := [.int (-1000000001), .ref 74]) rfl ?_
      refine wp_callV (o := 74) (as := [.int (-1000000001)]) (rest := []) (els := [.ref 74, .int (-1000000001)]) rfl rfl rfl rfl rfl rfl rfl rfl (by omega) ?_
      refine sp_error1 ?_
      show am_wp L xs _ _ _ _ 24 [.ref 74, .int 3, .int x2, .int x3, .int x4, .int x5, .int (-1000000001), am_du, am_du] [.int (-1000000001)] (am_S b) (am_u (am_u h 73 1 (h 73 1 + 1)) 77 1 ((am_u h 73 1 (h 73 1 + 1)) 77 1 + 1)) _
      refine wp_ret rfl ?_
      exact kk2 _ _ (re_err1 hR)
  · skip
    intro hnx1
    show am_wp L xs _ _ _ _ 4 [.ref 0, .int x1, .int x2, .int x3, .int x4, .int x5, am_du, am_du] [.int 0] (am_S b) h _
    refine wp_if_t rfl (show (0 : Int32) = 0 from by decide) ?_
    refine wp_run 2 (pc' := 16) (ls' := [.ref 0, .int x1, .int x2, .int x3, .int x4, .int x5, am_du, am_du]) (st' := [.int 1, .ref 0]) rfl ?_
    refine wp_callV (o := 0) (as := [.int 1]) (rest := []) (els := [.ref 0, .int 1]) rfl rfl rfl rfl rfl rfl rfl rfl (by omega) ?_
    refine sp_refuse1 (by omega) ?_
    show am_wp L xs _ _ _ _ 19 [.ref 0, .int x1, .int x2, .int x3, .int x4, .int x5, am_du, am_du] [.int (-1000000001)] (am_S b) (am_u h 73 1 (h 73 1 + 1)) _
    refine wp_ret rfl ?_
    refine kk _ _ _ (fun ms2 Q2 kk2 => ?_)
    refine wp_run 6 (pc' := 8) (ls' := [.ref 74, .int x1, .int x2, .int x3, .int x4, .int x5, am_du, am_du, am_du]) (st' := [.int x5, .int x4, .int x3, .int x2, .int x1, .ref 74]) rfl ?_
    refine wp_callV (o := 74) (as := [.int x1, .int x2, .int x3, .int x4, .int x5]) (rest := []) (els := [.ref 74, .int x1, .int x2, .int x3, .int x4, .int x5, am_du]) rfl rfl rfl rfl rfl rfl rfl rfl (by omega) ?_
    refine wp_run 1 (pc' := 1) (ls' := [.ref 74, .int x1, .int x2, .int x3, .int x4, .int x5, am_du]) (st' := [.int x1]) rfl ?_
    refine wp_callS (as := [.int x1]) (rest := []) (els := [.int x1]) rfl rfl rfl rfl rfl rfl rfl rfl (by omega) ?_
    refine sp_m_isSheet (by omega) (fun k hk e => absurd e (hnx1 k hk)) (fun _ => ?_)
    show am_wp L xs _ _ _ _ 4 [.ref 74, .int x1, .int x2, .int x3, .int x4, .int x5, am_du] [.int 0] (am_S b) (am_u h 73 1 (h 73 1 + 1)) _
    refine wp_if_t rfl (show (0 : Int32) = 0 from by decide) ?_
    refine wp_run 1 (pc' := 16) (ls' := [.ref 74, .int x1, .int x2, .int x3, .int x4, .int x5, am_du]) (st' := [.int (-1000000001)]) rfl ?_
    refine wp_ret rfl ?_
    show am_wp L xs _ _ _ _ 11 [.ref 74, .int x1, .int x2, .int x3, .int x4, .int x5, am_du, am_du, am_du] [.int (-1000000001)] (am_S b) (am_u h 73 1 (h 73 1 + 1)) _
    refine wp_run 2 (pc' := 15) (ls' := [.ref 74, .int x1, .int x2, .int x3, .int x4, .int x5, .int (-1000000001), am_du, am_du]) (st' := [.int (-1000000001)]) rfl ?_
    refine wp_if_f rfl (show ¬ (((-1000000001) : Int32) = 0) from by decide) ?_
    refine wp_run 2 (pc' := 21) (ls' := [.ref 74, .int x1, .int x2, .int x3, .int x4, .int x5, .int (-1000000001), am_du, am_du]) (st' := [.int (-1000000001), .ref 74]) rfl ?_
    refine wp_callV (o := 74) (as := [.int (-1000000001)]) (rest := []) (els := [.ref 74, .int (-1000000001)]) rfl rfl rfl rfl rfl rfl rfl rfl (by omega) ?_
    refine sp_error1 ?_
    show am_wp L xs _ _ _ _ 24 [.ref 74, .int x1, .int x2, .int x3, .int x4, .int x5, .int (-1000000001), am_du, am_du] [.int (-1000000001)] (am_S b) (am_u (am_u h 73 1 (h 73 1 + 1)) 77 1 ((am_u h 73 1 (h 73 1 + 1)) 77 1 + 1)) _
    refine wp_ret rfl ?_
    exact kk2 _ _ (re_err1 hR)
