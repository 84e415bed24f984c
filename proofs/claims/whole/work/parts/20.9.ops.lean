/-! calls tied: put, judge -/
theorem pu_four {P : Prop} {x : Int32} (h0 : x = 0 → P) (h1 : x = 1 → P) (h2 : x = 2 → P) (h3 : x = 3 → P) : ∀ k, k ≤ 3 → x = nI k → P := fun k hk e => by
  have q : k = 0 ∨ k = 1 ∨ k = 2 ∨ k = 3 := by omega
  rcases q with rfl | rfl | rfl | rfl
  · exact h0 e
  · exact h1 e
  · exact h2 e
  · exact h3 e
/-- one number of a sheet is written -/
theorem re_sh_w {s : Nat} {o r b z c : Nat → Int32} (h : re_sh s o r b z c) {i : Nat} (hi : i < 24) (v : Int32) : re_sh s o (upd r i v) b z (upd c (24 * s + i) v) := by
  obtain ⟨l, h1, h2, h3, h4, h5, h6⟩ := h
  refine ⟨l, h1, h2, h3, h4, h5, fun j hj => ?_⟩
  unfold upd
  by_cases e : j = i
  · rw [if_pos e, if_pos (by omega)]
  · rw [if_neg e, if_neg (by omega)]
    exact h6 j hj
theorem re_sh_o {s s2 : Nat} {o r b z c : Nat → Int32} (h : re_sh s o r b z c) (hs : s ≠ s2) {i : Nat} (hi : i < 24) (v : Int32) : re_sh s o r b z (upd c (24 * s2 + i) v) := by
  obtain ⟨l, h1, h2, h3, h4, h5, h6⟩ := h
  refine ⟨l, h1, h2, h3, h4, h5, fun j hj => ?_⟩
  unfold upd
  rw [if_neg (by omega)]
  exact h6 j hj
theorem op_put {L : Nat} {xs : Nat → Int32} {d ms b N : Nat} {h : am_HI} {Q : am_Q} {x1 : Int32} {x2 : Int32} {x3 : Int32} (hd : 30 ≤ d) (hR : am_Rel N h) (hN : N < 100000)
    (kk : ∀ v b1 h1, (∀ ms2 Q2, (∀ b2 h2, am_Rel (N + 1) h2 → Q2 (some (.int v)) (am_S b2) h2) → am_wp L xs d 0 ms2 211 0 [.ref 74, .int x1, .int x2, .int x3, am_du] [] (am_S b1) h1 Q2) → Q (some (.int v)) (am_S b1) h1) :
    am_wp L xs d 0 ms 113 0 [.ref 0, .int x1, .int x2, .int x3] [] (am_S b) h Q := by
  obtain ⟨⟨n, c, t, tp, wt, s0, s1, p0, p1, H⟩, hI, hE, hS0, hS1, hS2, hS3, hT⟩ := id hR
  have hn := H.1.1
  have hm2 := H.1.2.1
  have hn7 := H.1.2.2
  have hc := H.2.1.1
  have hm3 := H.2.1.2.1
  have hc7 := H.2.1.2.2
  have ht := H.2.2.1.1
  have hm0 := H.2.2.1.2.1
  have ht9 := H.2.2.1.2.2
  have HS := re_hs H
  have HM := re_ms H
  refine wp_run 1 (pc' := 1) (ls' := [.ref 0, .int x1, .int x2, .int x3]) (st' := [.int x1]) rfl ?_
  refine wp_callS (as := [.int x1]) (rest := []) (els := [.int x1]) rfl rfl rfl rfl rfl rfl rfl rfl (by omega) ?_
  refine sp_x_isSheet (by omega) (pu_four ?_ ?_ ?_ ?_) ?_
  · skip
    intro ex1
    subst ex1
    show am_wp L xs _ _ _ _ 4 [.ref 0, .int 0, .int x2, .int x3] [.int 1] (am_S b) h _
    refine wp_if_t rfl (show ¬ (1 : Int32) = 0 from by decide) ?_
    obtain ⟨l, hl24, ho2, hz2, hob, hbb, hri⟩ := id hS0
    rcases hbb with ⟨eb, el⟩ | eb | eb | eb
    · skip
      refine wp_run 1 (pc' := 14) (ls' := [.ref 0, .int 0, .int x2, .int x3]) (st' := [.ref 0]) rfl ?_
      refine wp_getr 64 rfl rfl rfl ?_
      refine wp_run 1 (pc' := 18) (ls' := [.ref 0, .int 0, .int x2, .int x3]) (st' := [.int 0, .ref 64]) rfl ?_
      refine wp_aald (r := 65) rfl rfl (Or.inr rfl) rfl (by decide) rfl rfl ?_
      refine wp_callV (o := 65) (as := []) (rest := []) (els := [.ref 65]) rfl rfl rfl rfl rfl rfl rfl rfl (by omega) ?_
      refine wp_run 1 (pc' := 1) (ls' := [.ref 65]) (st' := [.ref 65]) rfl ?_
      refine wp_geti (a := 1) 0 (hob.trans eb) rfl rfl rfl ?_
      refine wp_if_f rfl (show ¬ (¬ (0 : Int32) = 0) from by decide) ?_
      refine wp_run 2 (pc' := 12) (ls' := [.ref 65]) (st' := [.int 1]) rfl ?_
      refine wp_retz rfl (Or.inr rfl) ?_
      show am_wp L xs _ _ _ _ 22 [.ref 0, .int 0, .int x2, .int x3] [.int 1] (am_S b) h _
      refine wp_if_f rfl (show ¬ ((1 : Int32) = 0) from by decide) ?_
      refine wp_run 2 (pc' := 27) (ls' := [.ref 0, .int 0, .int x2, .int x3]) (st' := [.int 2, .ref 0]) rfl ?_
      refine wp_callV (o := 0) (as := [.int 2]) (rest := []) (els := [.ref 0, .int 2]) rfl rfl rfl rfl rfl rfl rfl rfl (by omega) ?_
      refine sp_refuse2 (by omega) ?_
      show am_wp L xs _ _ _ _ 30 [.ref 0, .int 0, .int x2, .int x3] [.int (-1000000002)] (am_S b) (am_u h 73 2 (h 73 2 + 1)) _
      refine wp_ret rfl ?_
      refine kk _ _ _ (fun ms2 Q2 kk2 => ?_)
      refine wp_run 2 (pc' := 2) (ls' := [.ref 74, .int 0, .int x2, .int x3, am_du]) (st' := [.int 0, .ref 74]) rfl ?_
      refine wp_callV (o := 74) (as := [.int 0]) (rest := []) (els := [.ref 74, .int 0]) rfl rfl rfl rfl rfl rfl rfl rfl (by omega) ?_
      refine wp_run 1 (pc' := 1) (ls' := [.ref 74, .int 0]) (st' := [.int 0]) rfl ?_
      refine wp_callS (as := [.int 0]) (rest := []) (els := [.int 0]) rfl rfl rfl rfl rfl rfl rfl rfl (by omega) ?_
      refine sp_m_isSheet (by omega) (fun _ _ _ => ?_) (fun q => absurd rfl (q 0 (by omega)))
      show am_wp L xs _ _ _ _ 4 [.ref 74, .int 0] [.int 1] (am_S b) (am_u h 73 2 (h 73 2 + 1)) _
      refine wp_if_t rfl (show ¬ (1 : Int32) = 0 from by decide) ?_
      refine wp_run 1 (pc' := 13) (ls' := [.ref 74, .int 0]) (st' := [.ref 74]) rfl ?_
      refine wp_getr 78 rfl rfl rfl ?_
      refine wp_run 1 (pc' := 17) (ls' := [.ref 74, .int 0]) (st' := [.int 0, .ref 78]) rfl ?_
      refine wp_ald (i := 0) 0 eb rfl rfl rfl (by decide) rfl ?_
      refine wp_if_f rfl (show ¬ (¬ (0 : Int32) = 0) from by decide) ?_
      refine wp_run 2 (pc' := 27) (ls' := [.ref 74, .int 0]) (st' := [.int (-1000000002)]) rfl ?_
      refine wp_ret rfl ?_
      show am_wp L xs _ _ _ _ 5 [.ref 74, .int 0, .int x2, .int x3, am_du] [.int (-1000000002)] (am_S b) (am_u h 73 2 (h 73 2 + 1)) _
      refine wp_run 2 (pc' := 9) (ls' := [.ref 74, .int 0, .int x2, .int x3, .int (-1000000002)]) (st' := [.int (-1000000002)]) rfl ?_
      refine wp_if_t rfl (show ¬ ((-1000000002) : Int32) = 0 from by decide) ?_
      refine wp_run 3 (pc' := 39) (ls' := [.ref 74, .int 0, .int x2, .int x3, .int (-1000000002)]) (st' := [.int (-1000000002)]) rfl ?_
      refine wp_if_f rfl (show ¬ (((-1000000002) : Int32) = 0) from by decide) ?_
      refine wp_run 2 (pc' := 45) (ls' := [.ref 74, .int 0, .int x2, .int x3, .int (-1000000002)]) (st' := [.int (-1000000002), .ref 74]) rfl ?_
      refine wp_callV (o := 74) (as := [.int (-1000000002)]) (rest := []) (els := [.ref 74, .int (-1000000002)]) rfl rfl rfl rfl rfl rfl rfl rfl (by omega) ?_
      refine sp_error2 ?_
      show am_wp L xs _ _ _ _ 48 [.ref 74, .int 0, .int x2, .int x3, .int (-1000000002)] [.int (-1000000002)] (am_S b) (am_u (am_u h 73 2 (h 73 2 + 1)) 77 2 ((am_u h 73 2 (h 73 2 + 1)) 77 2 + 1)) _
      refine wp_ret rfl ?_
      exact kk2 _ _ (re_err2 hR)
    · skip
      refine wp_run 1 (pc' := 14) (ls' := [.ref 0, .int 0, .int x2, .int x3]) (st' := [.ref 0]) rfl ?_
      refine wp_getr 64 rfl rfl rfl ?_
      refine wp_run 1 (pc' := 18) (ls' := [.ref 0, .int 0, .int x2, .int x3]) (st' := [.int 0, .ref 64]) rfl ?_
      refine wp_aald (r := 65) rfl rfl (Or.inr rfl) rfl (by decide) rfl rfl ?_
      refine wp_callV (o := 65) (as := []) (rest := []) (els := [.ref 65]) rfl rfl rfl rfl rfl rfl rfl rfl (by omega) ?_
      refine wp_run 1 (pc' := 1) (ls' := [.ref 65]) (st' := [.ref 65]) rfl ?_
      refine wp_geti (a := 1) 8 (hob.trans eb) rfl rfl rfl ?_
      refine wp_if_t rfl (show ¬ (8 : Int32) = 0 from by decide) ?_
      refine wp_run 1 (pc' := 12) (ls' := [.ref 65]) (st' := [.int 0]) rfl ?_
      refine wp_retz rfl (Or.inl rfl) ?_
      show am_wp L xs _ _ _ _ 22 [.ref 0, .int 0, .int x2, .int x3] [.int 0] (am_S b) h _
      refine wp_if_t rfl (show (0 : Int32) = 0 from by decide) ?_
      refine wp_run 3 (pc' := 34) (ls' := [.ref 0, .int 0, .int x2, .int x3]) (st' := [.ref 0, .int 0, .int x2]) rfl ?_
      refine wp_getr 64 rfl rfl rfl ?_
      refine wp_run 1 (pc' := 38) (ls' := [.ref 0, .int 0, .int x2, .int x3]) (st' := [.int 0, .ref 64, .int 0, .int x2]) rfl ?_
      refine wp_aald (r := 65) rfl rfl (Or.inr rfl) rfl (by decide) rfl rfl ?_
      refine wp_geti (a := 2) (nI l) ho2 rfl rfl rfl ?_
      refine wp_run 2 (pc' := 44) (ls' := [.ref 0, .int 0, .int x2, .int x3]) (st' := [.int ((nI l) - 1), .int 0, .int x2]) rfl ?_
      refine wp_callS (as := [.int x2, .int 0, .int ((nI l) - 1)]) (rest := []) (els := [.int x2, .int 0, .int ((nI l) - 1)]) rfl rfl rfl rfl rfl rfl rfl rfl (by omega) ?_
      refine sp_x_within1 (m := l) (by omega) rfl ?_ ?_
      · skip
        intro kx2 hkx2 ex2
        subst ex2
        show am_wp L xs _ _ _ _ 47 [.ref 0, .int 0, .int (nI kx2), .int x3] [.int 1] (am_S b) h _
        refine wp_if_t rfl (show ¬ (1 : Int32) = 0 from by decide) ?_
        refine wp_run 1 (pc' := 57) (ls' := [.ref 0, .int 0, .int (nI kx2), .int x3]) (st' := [.ref 0]) rfl ?_
        refine wp_getr 64 rfl rfl rfl ?_
        refine wp_run 1 (pc' := 61) (ls' := [.ref 0, .int 0, .int (nI kx2), .int x3]) (st' := [.int 0, .ref 64]) rfl ?_
        refine wp_aald (r := 65) rfl rfl (Or.inr rfl) rfl (by decide) rfl rfl ?_
        refine wp_run 2 (pc' := 64) (ls' := [.ref 0, .int 0, .int (nI kx2), .int x3]) (st' := [.int x3, .int (nI kx2), .ref 65]) rfl ?_
        refine wp_callV (o := 65) (as := [.int (nI kx2), .int x3]) (rest := []) (els := [.ref 65, .int (nI kx2), .int x3]) rfl rfl rfl rfl rfl rfl rfl rfl (by omega) ?_
        refine wp_run 1 (pc' := 1) (ls' := [.ref 65, .int (nI kx2), .int x3]) (st' := [.ref 65]) rfl ?_
        refine wp_getr 66 rfl rfl rfl ?_
        refine wp_run 2 (pc' := 6) (ls' := [.ref 65, .int (nI kx2), .int x3]) (st' := [.ref 65, .int (nI kx2), .ref 66]) rfl ?_
        refine wp_geti (a := 1) 8 (hob.trans eb) rfl rfl rfl ?_
        refine wp_run 1 (pc' := 11) (ls' := [.ref 65, .int (nI kx2), .int x3]) (st' := [.int 8, .int 8, .int (nI kx2), .ref 66]) rfl ?_
        refine wp_icmp_f rfl (show ¬ (¬ (8 : Int32) = 8) from by decide) ?_
        refine wp_run 3 (pc' := 34) (ls' := [.ref 65, .int (nI kx2), .int x3]) (st' := [.int (Int32.toInt8 x3).toInt32, .int (nI kx2), .ref 66]) rfl ?_
        refine wp_ast rfl rfl rfl (by omega) rfl ?_
        refine wp_retv rfl ?_
        show am_wp L xs _ _ _ _ 67 [.ref 0, .int 0, .int (nI kx2), .int x3] [] (am_S b) (am_u h 66 kx2 (Int32.toInt8 x3).toInt32) _
        refine wp_run 1 (pc' := 68) (ls' := [.ref 0, .int 0, .int (nI kx2), .int x3]) (st' := [.int 1]) rfl ?_
        refine wp_ret rfl ?_
        refine kk _ _ _ (fun ms2 Q2 kk2 => ?_)
        refine wp_run 2 (pc' := 2) (ls' := [.ref 74, .int 0, .int (nI kx2), .int x3, am_du]) (st' := [.int 0, .ref 74]) rfl ?_
        refine wp_callV (o := 74) (as := [.int 0]) (rest := []) (els := [.ref 74, .int 0]) rfl rfl rfl rfl rfl rfl rfl rfl (by omega) ?_
        refine wp_run 1 (pc' := 1) (ls' := [.ref 74, .int 0]) (st' := [.int 0]) rfl ?_
        refine wp_callS (as := [.int 0]) (rest := []) (els := [.int 0]) rfl rfl rfl rfl rfl rfl rfl rfl (by omega) ?_
        refine sp_m_isSheet (by omega) (fun _ _ _ => ?_) (fun q => absurd rfl (q 0 (by omega)))
        show am_wp L xs _ _ _ _ 4 [.ref 74, .int 0] [.int 1] (am_S b) (am_u h 66 kx2 (Int32.toInt8 x3).toInt32) _
        refine wp_if_t rfl (show ¬ (1 : Int32) = 0 from by decide) ?_
        refine wp_run 1 (pc' := 13) (ls' := [.ref 74, .int 0]) (st' := [.ref 74]) rfl ?_
        refine wp_getr 78 rfl rfl rfl ?_
        refine wp_run 1 (pc' := 17) (ls' := [.ref 74, .int 0]) (st' := [.int 0, .ref 78]) rfl ?_
        refine wp_ald (i := 0) 8 eb rfl rfl rfl (by decide) rfl ?_
        refine wp_if_t rfl (show ¬ (8 : Int32) = 0 from by decide) ?_
        refine wp_run 1 (pc' := 27) (ls' := [.ref 74, .int 0]) (st' := [.int 0]) rfl ?_
        refine wp_ret rfl ?_
        show am_wp L xs _ _ _ _ 5 [.ref 74, .int 0, .int (nI kx2), .int x3, am_du] [.int 0] (am_S b) (am_u h 66 kx2 (Int32.toInt8 x3).toInt32) _
        refine wp_run 2 (pc' := 9) (ls' := [.ref 74, .int 0, .int (nI kx2), .int x3, .int 0]) (st' := [.int 0]) rfl ?_
        refine wp_if_f rfl (show ¬ (¬ (0 : Int32) = 0) from by decide) ?_
        refine wp_run 3 (pc' := 15) (ls' := [.ref 74, .int 0, .int (nI kx2), .int x3, .int 0]) (st' := [.ref 74, .int 0, .int (nI kx2)]) rfl ?_
        refine wp_getr 79 rfl rfl rfl ?_
        refine wp_run 1 (pc' := 19) (ls' := [.ref 74, .int 0, .int (nI kx2), .int x3, .int 0]) (st' := [.int 0, .ref 79, .int 0, .int (nI kx2)]) rfl ?_
        refine wp_ald (i := 0) (nI l) hz2 rfl rfl rfl (by decide) rfl ?_
        refine wp_run 2 (pc' := 22) (ls' := [.ref 74, .int 0, .int (nI kx2), .int x3, .int 0]) (st' := [.int ((nI l) - 1), .int 0, .int (nI kx2)]) rfl ?_
        refine wp_callS (as := [.int (nI kx2), .int 0, .int ((nI l) - 1)]) (rest := []) (els := [.int (nI kx2), .int 0, .int ((nI l) - 1)]) rfl rfl rfl rfl rfl rfl rfl rfl (by omega) ?_
        refine sp_m_in1 (m := l) (by omega) rfl (fun _ _ _ => ?_) (fun q => absurd rfl (q kx2 (by omega)))
        show am_wp L xs _ _ _ _ 25 [.ref 74, .int 0, .int (nI kx2), .int x3, .int 0] [.int 1] (am_S b) (am_u h 66 kx2 (Int32.toInt8 x3).toInt32) _
        refine wp_if_t rfl (show ¬ (1 : Int32) = 0 from by decide) ?_
        refine wp_run 3 (pc' := 39) (ls' := [.ref 74, .int 0, .int (nI kx2), .int x3, .int 0]) (st' := [.int 0]) rfl ?_
        refine wp_if_t rfl (show (0 : Int32) = 0 from by decide) ?_
        refine wp_run 1 (pc' := 50) (ls' := [.ref 74, .int 0, .int (nI kx2), .int x3, .int 0]) (st' := [.ref 74]) rfl ?_
        refine wp_getr 80 rfl rfl rfl ?_
        refine wp_run 6 (pc' := 60) (ls' := [.ref 74, .int 0, .int (nI kx2), .int x3, .int 0]) (st' := [.ref 74, .int ((24 * 0) + (nI kx2)), .ref 80]) rfl ?_
        rw [show ((24 * 0) : Int32) = 0 from by decide]
        rw [show ((0 + (nI kx2)) : Int32) = (nI (0 + kx2)) from nI_add 0 kx2]
        refine wp_getr 78 rfl rfl rfl ?_
        refine wp_run 1 (pc' := 64) (ls' := [.ref 74, .int 0, .int (nI kx2), .int x3, .int 0]) (st' := [.int 0, .ref 78, .int (nI (0 + kx2)), .ref 80]) rfl ?_
        refine wp_ald (i := 0) 8 eb rfl rfl rfl (by decide) rfl ?_
        refine wp_run 1 (pc' := 67) (ls' := [.ref 74, .int 0, .int (nI kx2), .int x3, .int 0]) (st' := [.int 8, .int 8, .int (nI (0 + kx2)), .ref 80]) rfl ?_
        refine wp_icmp_f rfl (show ¬ (¬ (8 : Int32) = 8) from by decide) ?_
        refine wp_run 3 (pc' := 92) (ls' := [.ref 74, .int 0, .int (nI kx2), .int x3, .int 0]) (st' := [.int (Int32.toInt8 x3).toInt32, .int (nI (0 + kx2)), .ref 80]) rfl ?_
        refine wp_ast rfl rfl rfl (by omega) rfl ?_
        refine wp_run 1 (pc' := 94) (ls' := [.ref 74, .int 0, .int (nI kx2), .int x3, .int 0]) (st' := [.int 1]) rfl ?_
        refine wp_ret rfl ?_
        exact kk2 _ _ ⟨⟨n, c, t, tp, wt, s0, s1, p0, p1, H⟩, re_im_s hI, hE, (re_sh_w hS0 (i := kx2) (by omega) ((Int32.toInt8 x3).toInt32)), (re_sh_o hS1 (s2 := 0) (by omega) (i := kx2) (by omega) ((Int32.toInt8 x3).toInt32)), (re_sh_o hS2 (s2 := 0) (by omega) (i := kx2) (by omega) ((Int32.toInt8 x3).toInt32)), (re_sh_o hS3 (s2 := 0) (by omega) (i := kx2) (by omega) ((Int32.toInt8 x3).toInt32)), hT⟩
      · skip
        intro hnx2
        show am_wp L xs _ _ _ _ 47 [.ref 0, .int 0, .int x2, .int x3] [.int 0] (am_S b) h _
        refine wp_if_f rfl (show ¬ (¬ (0 : Int32) = 0) from by decide) ?_
        refine wp_run 2 (pc' := 52) (ls' := [.ref 0, .int 0, .int x2, .int x3]) (st' := [.int 1, .ref 0]) rfl ?_
        refine wp_callV (o := 0) (as := [.int 1]) (rest := []) (els := [.ref 0, .int 1]) rfl rfl rfl rfl rfl rfl rfl rfl (by omega) ?_
        refine sp_refuse1 (by omega) ?_
        show am_wp L xs _ _ _ _ 55 [.ref 0, .int 0, .int x2, .int x3] [.int (-1000000001)] (am_S b) (am_u h 73 1 (h 73 1 + 1)) _
        refine wp_ret rfl ?_
        refine kk _ _ _ (fun ms2 Q2 kk2 => ?_)
        refine wp_run 2 (pc' := 2) (ls' := [.ref 74, .int 0, .int x2, .int x3, am_du]) (st' := [.int 0, .ref 74]) rfl ?_
        refine wp_callV (o := 74) (as := [.int 0]) (rest := []) (els := [.ref 74, .int 0]) rfl rfl rfl rfl rfl rfl rfl rfl (by omega) ?_
        refine wp_run 1 (pc' := 1) (ls' := [.ref 74, .int 0]) (st' := [.int 0]) rfl ?_
        refine wp_callS (as := [.int 0]) (rest := []) (els := [.int 0]) rfl rfl rfl rfl rfl rfl rfl rfl (by omega) ?_
        refine sp_m_isSheet (by omega) (fun _ _ _ => ?_) (fun q => absurd rfl (q 0 (by omega)))
        show am_wp L xs _ _ _ _ 4 [.ref 74, .int 0] [.int 1] (am_S b) (am_u h 73 1 (h 73 1 + 1)) _
        refine wp_if_t rfl (show ¬ (1 : Int32) = 0 from by decide) ?_
        refine wp_run 1 (pc' := 13) (ls' := [.ref 74, .int 0]) (st' := [.ref 74]) rfl ?_
        refine wp_getr 78 rfl rfl rfl ?_
        refine wp_run 1 (pc' := 17) (ls' := [.ref 74, .int 0]) (st' := [.int 0, .ref 78]) rfl ?_
        refine wp_ald (i := 0) 8 eb rfl rfl rfl (by decide) rfl ?_
        refine wp_if_t rfl (show ¬ (8 : Int32) = 0 from by decide) ?_
        refine wp_run 1 (pc' := 27) (ls' := [.ref 74, .int 0]) (st' := [.int 0]) rfl ?_
        refine wp_ret rfl ?_
        show am_wp L xs _ _ _ _ 5 [.ref 74, .int 0, .int x2, .int x3, am_du] [.int 0] (am_S b) (am_u h 73 1 (h 73 1 + 1)) _
        refine wp_run 2 (pc' := 9) (ls' := [.ref 74, .int 0, .int x2, .int x3, .int 0]) (st' := [.int 0]) rfl ?_
        refine wp_if_f rfl (show ¬ (¬ (0 : Int32) = 0) from by decide) ?_
        refine wp_run 3 (pc' := 15) (ls' := [.ref 74, .int 0, .int x2, .int x3, .int 0]) (st' := [.ref 74, .int 0, .int x2]) rfl ?_
        refine wp_getr 79 rfl rfl rfl ?_
        refine wp_run 1 (pc' := 19) (ls' := [.ref 74, .int 0, .int x2, .int x3, .int 0]) (st' := [.int 0, .ref 79, .int 0, .int x2]) rfl ?_
        refine wp_ald (i := 0) (nI l) hz2 rfl rfl rfl (by decide) rfl ?_
        refine wp_run 2 (pc' := 22) (ls' := [.ref 74, .int 0, .int x2, .int x3, .int 0]) (st' := [.int ((nI l) - 1), .int 0, .int x2]) rfl ?_
        refine wp_callS (as := [.int x2, .int 0, .int ((nI l) - 1)]) (rest := []) (els := [.int x2, .int 0, .int ((nI l) - 1)]) rfl rfl rfl rfl rfl rfl rfl rfl (by omega) ?_
        refine sp_m_in1 (m := l) (by omega) rfl (fun k hk e => absurd e (hnx2 k hk)) (fun _ => ?_)
        show am_wp L xs _ _ _ _ 25 [.ref 74, .int 0, .int x2, .int x3, .int 0] [.int 0] (am_S b) (am_u h 73 1 (h 73 1 + 1)) _
        refine wp_if_f rfl (show ¬ (¬ (0 : Int32) = 0) from by decide) ?_
        refine wp_run 4 (pc' := 39) (ls' := [.ref 74, .int 0, .int x2, .int x3, .int (-1000000001)]) (st' := [.int (-1000000001)]) rfl ?_
        refine wp_if_f rfl (show ¬ (((-1000000001) : Int32) = 0) from by decide) ?_
        refine wp_run 2 (pc' := 45) (ls' := [.ref 74, .int 0, .int x2, .int x3, .int (-1000000001)]) (st' := [.int (-1000000001), .ref 74]) rfl ?_
        refine wp_callV (o := 74) (as := [.int (-1000000001)]) (rest := []) (els := [.ref 74, .int (-1000000001)]) rfl rfl rfl rfl rfl rfl rfl rfl (by omega) ?_
        refine sp_error1 ?_
        show am_wp L xs _ _ _ _ 48 [.ref 74, .int 0, .int x2, .int x3, .int (-1000000001)] [.int (-1000000001)] (am_S b) (am_u (am_u h 73 1 (h 73 1 + 1)) 77 1 ((am_u h 73 1 (h 73 1 + 1)) 77 1 + 1)) _
        refine wp_ret rfl ?_
        exact kk2 _ _ (re_err1 hR)
    · skip
      refine wp_run 1 (pc' := 14) (ls' := [.ref 0, .int 0, .int x2, .int x3]) (st' := [.ref 0]) rfl ?_
      refine wp_getr 64 rfl rfl rfl ?_
      refine wp_run 1 (pc' := 18) (ls' := [.ref 0, .int 0, .int x2, .int x3]) (st' := [.int 0, .ref 64]) rfl ?_
      refine wp_aald (r := 65) rfl rfl (Or.inr rfl) rfl (by decide) rfl rfl ?_
      refine wp_callV (o := 65) (as := []) (rest := []) (els := [.ref 65]) rfl rfl rfl rfl rfl rfl rfl rfl (by omega) ?_
      refine wp_run 1 (pc' := 1) (ls' := [.ref 65]) (st' := [.ref 65]) rfl ?_
      refine wp_geti (a := 1) 16 (hob.trans eb) rfl rfl rfl ?_
      refine wp_if_t rfl (show ¬ (16 : Int32) = 0 from by decide) ?_
      refine wp_run 1 (pc' := 12) (ls' := [.ref 65]) (st' := [.int 0]) rfl ?_
      refine wp_retz rfl (Or.inl rfl) ?_
      show am_wp L xs _ _ _ _ 22 [.ref 0, .int 0, .int x2, .int x3] [.int 0] (am_S b) h _
      refine wp_if_t rfl (show (0 : Int32) = 0 from by decide) ?_
      refine wp_run 3 (pc' := 34) (ls' := [.ref 0, .int 0, .int x2, .int x3]) (st' := [.ref 0, .int 0, .int x2]) rfl ?_
      refine wp_getr 64 rfl rfl rfl ?_
      refine wp_run 1 (pc' := 38) (ls' := [.ref 0, .int 0, .int x2, .int x3]) (st' := [.int 0, .ref 64, .int 0, .int x2]) rfl ?_
      refine wp_aald (r := 65) rfl rfl (Or.inr rfl) rfl (by decide) rfl rfl ?_
      refine wp_geti (a := 2) (nI l) ho2 rfl rfl rfl ?_
      refine wp_run 2 (pc' := 44) (ls' := [.ref 0, .int 0, .int x2, .int x3]) (st' := [.int ((nI l) - 1), .int 0, .int x2]) rfl ?_
      refine wp_callS (as := [.int x2, .int 0, .int ((nI l) - 1)]) (rest := []) (els := [.int x2, .int 0, .int ((nI l) - 1)]) rfl rfl rfl rfl rfl rfl rfl rfl (by omega) ?_
      refine sp_x_within1 (m := l) (by omega) rfl ?_ ?_
      · skip
        intro kx2 hkx2 ex2
        subst ex2
        show am_wp L xs _ _ _ _ 47 [.ref 0, .int 0, .int (nI kx2), .int x3] [.int 1] (am_S b) h _
        refine wp_if_t rfl (show ¬ (1 : Int32) = 0 from by decide) ?_
        refine wp_run 1 (pc' := 57) (ls' := [.ref 0, .int 0, .int (nI kx2), .int x3]) (st' := [.ref 0]) rfl ?_
        refine wp_getr 64 rfl rfl rfl ?_
        refine wp_run 1 (pc' := 61) (ls' := [.ref 0, .int 0, .int (nI kx2), .int x3]) (st' := [.int 0, .ref 64]) rfl ?_
        refine wp_aald (r := 65) rfl rfl (Or.inr rfl) rfl (by decide) rfl rfl ?_
        refine wp_run 2 (pc' := 64) (ls' := [.ref 0, .int 0, .int (nI kx2), .int x3]) (st' := [.int x3, .int (nI kx2), .ref 65]) rfl ?_
        refine wp_callV (o := 65) (as := [.int (nI kx2), .int x3]) (rest := []) (els := [.ref 65, .int (nI kx2), .int x3]) rfl rfl rfl rfl rfl rfl rfl rfl (by omega) ?_
        refine wp_run 1 (pc' := 1) (ls' := [.ref 65, .int (nI kx2), .int x3]) (st' := [.ref 65]) rfl ?_
        refine wp_getr 66 rfl rfl rfl ?_
        refine wp_run 2 (pc' := 6) (ls' := [.ref 65, .int (nI kx2), .int x3]) (st' := [.ref 65, .int (nI kx2), .ref 66]) rfl ?_
        refine wp_geti (a := 1) 16 (hob.trans eb) rfl rfl rfl ?_
        refine wp_run 1 (pc' := 11) (ls' := [.ref 65, .int (nI kx2), .int x3]) (st' := [.int 8, .int 16, .int (nI kx2), .ref 66]) rfl ?_
        refine wp_icmp_t rfl (show ¬ (16 : Int32) = 8 from by decide) ?_
        refine wp_run 1 (pc' := 20) (ls' := [.ref 65, .int (nI kx2), .int x3]) (st' := [.ref 65, .int (nI kx2), .ref 66]) rfl ?_
        refine wp_geti (a := 1) 16 (hob.trans eb) rfl rfl rfl ?_
        refine wp_run 1 (pc' := 25) (ls' := [.ref 65, .int (nI kx2), .int x3]) (st' := [.int 16, .int 16, .int (nI kx2), .ref 66]) rfl ?_
        refine wp_icmp_f rfl (show ¬ (¬ (16 : Int32) = 16) from by decide) ?_
        refine wp_run 3 (pc' := 34) (ls' := [.ref 65, .int (nI kx2), .int x3]) (st' := [.int (Int32.toInt16 x3).toInt32, .int (nI kx2), .ref 66]) rfl ?_
        refine wp_ast rfl rfl rfl (by omega) rfl ?_
        refine wp_retv rfl ?_
        show am_wp L xs _ _ _ _ 67 [.ref 0, .int 0, .int (nI kx2), .int x3] [] (am_S b) (am_u h 66 kx2 (Int32.toInt16 x3).toInt32) _
        refine wp_run 1 (pc' := 68) (ls' := [.ref 0, .int 0, .int (nI kx2), .int x3]) (st' := [.int 1]) rfl ?_
        refine wp_ret rfl ?_
        refine kk _ _ _ (fun ms2 Q2 kk2 => ?_)
        refine wp_run 2 (pc' := 2) (ls' := [.ref 74, .int 0, .int (nI kx2), .int x3, am_du]) (st' := [.int 0, .ref 74]) rfl ?_
        refine wp_callV (o := 74) (as := [.int 0]) (rest := []) (els := [.ref 74, .int 0]) rfl rfl rfl rfl rfl rfl rfl rfl (by omega) ?_
        refine wp_run 1 (pc' := 1) (ls' := [.ref 74, .int 0]) (st' := [.int 0]) rfl ?_
        refine wp_callS (as := [.int 0]) (rest := []) (els := [.int 0]) rfl rfl rfl rfl rfl rfl rfl rfl (by omega) ?_
        refine sp_m_isSheet (by omega) (fun _ _ _ => ?_) (fun q => absurd rfl (q 0 (by omega)))
        show am_wp L xs _ _ _ _ 4 [.ref 74, .int 0] [.int 1] (am_S b) (am_u h 66 kx2 (Int32.toInt16 x3).toInt32) _
        refine wp_if_t rfl (show ¬ (1 : Int32) = 0 from by decide) ?_
        refine wp_run 1 (pc' := 13) (ls' := [.ref 74, .int 0]) (st' := [.ref 74]) rfl ?_
        refine wp_getr 78 rfl rfl rfl ?_
        refine wp_run 1 (pc' := 17) (ls' := [.ref 74, .int 0]) (st' := [.int 0, .ref 78]) rfl ?_
        refine wp_ald (i := 0) 16 eb rfl rfl rfl (by decide) rfl ?_
        refine wp_if_t rfl (show ¬ (16 : Int32) = 0 from by decide) ?_
        refine wp_run 1 (pc' := 27) (ls' := [.ref 74, .int 0]) (st' := [.int 0]) rfl ?_
        refine wp_ret rfl ?_
        show am_wp L xs _ _ _ _ 5 [.ref 74, .int 0, .int (nI kx2), .int x3, am_du] [.int 0] (am_S b) (am_u h 66 kx2 (Int32.toInt16 x3).toInt32) _
        refine wp_run 2 (pc' := 9) (ls' := [.ref 74, .int 0, .int (nI kx2), .int x3, .int 0]) (st' := [.int 0]) rfl ?_
        refine wp_if_f rfl (show ¬ (¬ (0 : Int32) = 0) from by decide) ?_
        refine wp_run 3 (pc' := 15) (ls' := [.ref 74, .int 0, .int (nI kx2), .int x3, .int 0]) (st' := [.ref 74, .int 0, .int (nI kx2)]) rfl ?_
        refine wp_getr 79 rfl rfl rfl ?_
        refine wp_run 1 (pc' := 19) (ls' := [.ref 74, .int 0, .int (nI kx2), .int x3, .int 0]) (st' := [.int 0, .ref 79, .int 0, .int (nI kx2)]) rfl ?_
        refine wp_ald (i := 0) (nI l) hz2 rfl rfl rfl (by decide) rfl ?_
        refine wp_run 2 (pc' := 22) (ls' := [.ref 74, .int 0, .int (nI kx2), .int x3, .int 0]) (st' := [.int ((nI l) - 1), .int 0, .int (nI kx2)]) rfl ?_
        refine wp_callS (as := [.int (nI kx2), .int 0, .int ((nI l) - 1)]) (rest := []) (els := [.int (nI kx2), .int 0, .int ((nI l) - 1)]) rfl rfl rfl rfl rfl rfl rfl rfl (by omega) ?_
        refine sp_m_in1 (m := l) (by omega) rfl (fun _ _ _ => ?_) (fun q => absurd rfl (q kx2 (by omega)))
        show am_wp L xs _ _ _ _ 25 [.ref 74, .int 0, .int (nI kx2), .int x3, .int 0] [.int 1] (am_S b) (am_u h 66 kx2 (Int32.toInt16 x3).toInt32) _
        refine wp_if_t rfl (show ¬ (1 : Int32) = 0 from by decide) ?_
        refine wp_run 3 (pc' := 39) (ls' := [.ref 74, .int 0, .int (nI kx2), .int x3, .int 0]) (st' := [.int 0]) rfl ?_
        refine wp_if_t rfl (show (0 : Int32) = 0 from by decide) ?_
        refine wp_run 1 (pc' := 50) (ls' := [.ref 74, .int 0, .int (nI kx2), .int x3, .int 0]) (st' := [.ref 74]) rfl ?_
        refine wp_getr 80 rfl rfl rfl ?_
        refine wp_run 6 (pc' := 60) (ls' := [.ref 74, .int 0, .int (nI kx2), .int x3, .int 0]) (st' := [.ref 74, .int ((24 * 0) + (nI kx2)), .ref 80]) rfl ?_
        rw [show ((24 * 0) : Int32) = 0 from by decide]
        rw [show ((0 + (nI kx2)) : Int32) = (nI (0 + kx2)) from nI_add 0 kx2]
        refine wp_getr 78 rfl rfl rfl ?_
        refine wp_run 1 (pc' := 64) (ls' := [.ref 74, .int 0, .int (nI kx2), .int x3, .int 0]) (st' := [.int 0, .ref 78, .int (nI (0 + kx2)), .ref 80]) rfl ?_
        refine wp_ald (i := 0) 16 eb rfl rfl rfl (by decide) rfl ?_
        refine wp_run 1 (pc' := 67) (ls' := [.ref 74, .int 0, .int (nI kx2), .int x3, .int 0]) (st' := [.int 8, .int 16, .int (nI (0 + kx2)), .ref 80]) rfl ?_
        refine wp_icmp_t rfl (show ¬ (16 : Int32) = 8 from by decide) ?_
        refine wp_run 1 (pc' := 76) (ls' := [.ref 74, .int 0, .int (nI kx2), .int x3, .int 0]) (st' := [.ref 74, .int (nI (0 + kx2)), .ref 80]) rfl ?_
        refine wp_getr 78 rfl rfl rfl ?_
        refine wp_run 1 (pc' := 80) (ls' := [.ref 74, .int 0, .int (nI kx2), .int x3, .int 0]) (st' := [.int 0, .ref 78, .int (nI (0 + kx2)), .ref 80]) rfl ?_
        refine wp_ald (i := 0) 16 eb rfl rfl rfl (by decide) rfl ?_
        refine wp_run 1 (pc' := 83) (ls' := [.ref 74, .int 0, .int (nI kx2), .int x3, .int 0]) (st' := [.int 16, .int 16, .int (nI (0 + kx2)), .ref 80]) rfl ?_
        refine wp_icmp_f rfl (show ¬ (¬ (16 : Int32) = 16) from by decide) ?_
        refine wp_run 3 (pc' := 92) (ls' := [.ref 74, .int 0, .int (nI kx2), .int x3, .int 0]) (st' := [.int (Int32.toInt16 x3).toInt32, .int (nI (0 + kx2)), .ref 80]) rfl ?_
        refine wp_ast rfl rfl rfl (by omega) rfl ?_
        refine wp_run 1 (pc' := 94) (ls' := [.ref 74, .int 0, .int (nI kx2), .int x3, .int 0]) (st' := [.int 1]) rfl ?_
        refine wp_ret rfl ?_
        exact kk2 _ _ ⟨⟨n, c, t, tp, wt, s0, s1, p0, p1, H⟩, re_im_s hI, hE, (re_sh_w hS0 (i := kx2) (by omega) ((Int32.toInt16 x3).toInt32)), (re_sh_o hS1 (s2 := 0) (by omega) (i := kx2) (by omega) ((Int32.toInt16 x3).toInt32)), (re_sh_o hS2 (s2 := 0) (by omega) (i := kx2) (by omega) ((Int32.toInt16 x3).toInt32)), (re_sh_o hS3 (s2 := 0) (by omega) (i := kx2) (by omega) ((Int32.toInt16 x3).toInt32)), hT⟩
      · skip
        intro hnx2
        show am_wp L xs _ _ _ _ 47 [.ref 0, .int 0, .int x2, .int x3] [.int 0] (am_S b) h _
        refine wp_if_f rfl (show ¬ (¬ (0 : Int32) = 0) from by decide) ?_
        refine wp_run 2 (pc' := 52) (ls' := [.ref 0, .int 0, .int x2, .int x3]) (st' := [.int 1, .ref 0]) rfl ?_
        refine wp_callV (o := 0) (as := [.int 1]) (rest := []) (els := [.ref 0, .int 1]) rfl rfl rfl rfl rfl rfl rfl rfl (by omega) ?_
        refine sp_refuse1 (by omega) ?_
        show am_wp L xs _ _ _ _ 55 [.ref 0, .int 0, .int x2, .int x3] [.int (-1000000001)] (am_S b) (am_u h 73 1 (h 73 1 + 1)) _
        refine wp_ret rfl ?_
        refine kk _ _ _ (fun ms2 Q2 kk2 => ?_)
        refine wp_run 2 (pc' := 2) (ls' := [.ref 74, .int 0, .int x2, .int x3, am_du]) (st' := [.int 0, .ref 74]) rfl ?_
        refine wp_callV (o := 74) (as := [.int 0]) (rest := []) (els := [.ref 74, .int 0]) rfl rfl rfl rfl rfl rfl rfl rfl (by omega) ?_
        refine wp_run 1 (pc' := 1) (ls' := [.ref 74, .int 0]) (st' := [.int 0]) rfl ?_
        refine wp_callS (as := [.int 0]) (rest := []) (els := [.int 0]) rfl rfl rfl rfl rfl rfl rfl rfl (by omega) ?_
        refine sp_m_isSheet (by omega) (fun _ _ _ => ?_) (fun q => absurd rfl (q 0 (by omega)))
        show am_wp L xs _ _ _ _ 4 [.ref 74, .int 0] [.int 1] (am_S b) (am_u h 73 1 (h 73 1 + 1)) _
        refine wp_if_t rfl (show ¬ (1 : Int32) = 0 from by decide) ?_
        refine wp_run 1 (pc' := 13) (ls' := [.ref 74, .int 0]) (st' := [.ref 74]) rfl ?_
        refine wp_getr 78 rfl rfl rfl ?_
        refine wp_run 1 (pc' := 17) (ls' := [.ref 74, .int 0]) (st' := [.int 0, .ref 78]) rfl ?_
        refine wp_ald (i := 0) 16 eb rfl rfl rfl (by decide) rfl ?_
        refine wp_if_t rfl (show ¬ (16 : Int32) = 0 from by decide) ?_
        refine wp_run 1 (pc' := 27) (ls' := [.ref 74, .int 0]) (st' := [.int 0]) rfl ?_
        refine wp_ret rfl ?_
        show am_wp L xs _ _ _ _ 5 [.ref 74, .int 0, .int x2, .int x3, am_du] [.int 0] (am_S b) (am_u h 73 1 (h 73 1 + 1)) _
        refine wp_run 2 (pc' := 9) (ls' := [.ref 74, .int 0, .int x2, .int x3, .int 0]) (st' := [.int 0]) rfl ?_
        refine wp_if_f rfl (show ¬ (¬ (0 : Int32) = 0) from by decide) ?_
        refine wp_run 3 (pc' := 15) (ls' := [.ref 74, .int 0, .int x2, .int x3, .int 0]) (st' := [.ref 74, .int 0, .int x2]) rfl ?_
        refine wp_getr 79 rfl rfl rfl ?_
        refine wp_run 1 (pc' := 19) (ls' := [.ref 74, .int 0, .int x2, .int x3, .int 0]) (st' := [.int 0, .ref 79, .int 0, .int x2]) rfl ?_
        refine wp_ald (i := 0) (nI l) hz2 rfl rfl rfl (by decide) rfl ?_
        refine wp_run 2 (pc' := 22) (ls' := [.ref 74, .int 0, .int x2, .int x3, .int 0]) (st' := [.int ((nI l) - 1), .int 0, .int x2]) rfl ?_
        refine wp_callS (as := [.int x2, .int 0, .int ((nI l) - 1)]) (rest := []) (els := [.int x2, .int 0, .int ((nI l) - 1)]) rfl rfl rfl rfl rfl rfl rfl rfl (by omega) ?_
        refine sp_m_in1 (m := l) (by omega) rfl (fun k hk e => absurd e (hnx2 k hk)) (fun _ => ?_)
        show am_wp L xs _ _ _ _ 25 [.ref 74, .int 0, .int x2, .int x3, .int 0] [.int 0] (am_S b) (am_u h 73 1 (h 73 1 + 1)) _
        refine wp_if_f rfl (show ¬ (¬ (0 : Int32) = 0) from by decide) ?_
        refine wp_run 4 (pc' := 39) (ls' := [.ref 74, .int 0, .int x2, .int x3, .int (-1000000001)]) (st' := [.int (-1000000001)]) rfl ?_
        refine wp_if_f rfl (show ¬ (((-1000000001) : Int32) = 0) from by decide) ?_
        refine wp_run 2 (pc' := 45) (ls' := [.ref 74, .int 0, .int x2, .int x3, .int (-1000000001)]) (st' := [.int (-1000000001), .ref 74]) rfl ?_
        refine wp_callV (o := 74) (as := [.int (-1000000001)]) (rest := []) (els := [.ref 74, .int (-1000000001)]) rfl rfl rfl rfl rfl rfl rfl rfl (by omega) ?_
        refine sp_error1 ?_
        show am_wp L xs _ _ _ _ 48 [.ref 74, .int 0, .int x2, .int x3, .int (-1000000001)] [.int (-1000000001)] (am_S b) (am_u (am_u h 73 1 (h 73 1 + 1)) 77 1 ((am_u h 73 1 (h 73 1 + 1)) 77 1 + 1)) _
        refine wp_ret rfl ?_
        exact kk2 _ _ (re_err1 hR)
    · skip
      refine wp_run 1 (pc' := 14) (ls' := [.ref 0, .int 0, .int x2, .int x3]) (st' := [.ref 0]) rfl ?_
      refine wp_getr 64 rfl rfl rfl ?_
      refine wp_run 1 (pc' := 18) (ls' := [.ref 0, .int 0, .int x2, .int x3]) (st' := [.int 0, .ref 64]) rfl ?_
      refine wp_aald (r := 65) rfl rfl (Or.inr rfl) rfl (by decide) rfl rfl ?_
      refine wp_callV (o := 65) (as := []) (rest := []) (els := [.ref 65]) rfl rfl rfl rfl rfl rfl rfl rfl (by omega) ?_
      refine wp_run 1 (pc' := 1) (ls' := [.ref 65]) (st' := [.ref 65]) rfl ?_
      refine wp_geti (a := 1) 32 (hob.trans eb) rfl rfl rfl ?_
      refine wp_if_t rfl (show ¬ (32 : Int32) = 0 from by decide) ?_
      refine wp_run 1 (pc' := 12) (ls' := [.ref 65]) (st' := [.int 0]) rfl ?_
      refine wp_retz rfl (Or.inl rfl) ?_
      show am_wp L xs _ _ _ _ 22 [.ref 0, .int 0, .int x2, .int x3] [.int 0] (am_S b) h _
      refine wp_if_t rfl (show (0 : Int32) = 0 from by decide) ?_
      refine wp_run 3 (pc' := 34) (ls' := [.ref 0, .int 0, .int x2, .int x3]) (st' := [.ref 0, .int 0, .int x2]) rfl ?_
      refine wp_getr 64 rfl rfl rfl ?_
      refine wp_run 1 (pc' := 38) (ls' := [.ref 0, .int 0, .int x2, .int x3]) (st' := [.int 0, .ref 64, .int 0, .int x2]) rfl ?_
      refine wp_aald (r := 65) rfl rfl (Or.inr rfl) rfl (by decide) rfl rfl ?_
      refine wp_geti (a := 2) (nI l) ho2 rfl rfl rfl ?_
      refine wp_run 2 (pc' := 44) (ls' := [.ref 0, .int 0, .int x2, .int x3]) (st' := [.int ((nI l) - 1), .int 0, .int x2]) rfl ?_
      refine wp_callS (as := [.int x2, .int 0, .int ((nI l) - 1)]) (rest := []) (els := [.int x2, .int 0, .int ((nI l) - 1)]) rfl rfl rfl rfl rfl rfl rfl rfl (by omega) ?_
      refine sp_x_within1 (m := l) (by omega) rfl ?_ ?_
      · skip
        intro kx2 hkx2 ex2
        subst ex2
        show am_wp L xs _ _ _ _ 47 [.ref 0, .int 0, .int (nI kx2), .int x3] [.int 1] (am_S b) h _
        refine wp_if_t rfl (show ¬ (1 : Int32) = 0 from by decide) ?_
        refine wp_run 1 (pc' := 57) (ls' := [.ref 0, .int 0, .int (nI kx2), .int x3]) (st' := [.ref 0]) rfl ?_
        refine wp_getr 64 rfl rfl rfl ?_
        refine wp_run 1 (pc' := 61) (ls' := [.ref 0, .int 0, .int (nI kx2), .int x3]) (st' := [.int 0, .ref 64]) rfl ?_
        refine wp_aald (r := 65) rfl rfl (Or.inr rfl) rfl (by decide) rfl rfl ?_
        refine wp_run 2 (pc' := 64) (ls' := [.ref 0, .int 0, .int (nI kx2), .int x3]) (st' := [.int x3, .int (nI kx2), .ref 65]) rfl ?_
        refine wp_callV (o := 65) (as := [.int (nI kx2), .int x3]) (rest := []) (els := [.ref 65, .int (nI kx2), .int x3]) rfl rfl rfl rfl rfl rfl rfl rfl (by omega) ?_
        refine wp_run 1 (pc' := 1) (ls' := [.ref 65, .int (nI kx2), .int x3]) (st' := [.ref 65]) rfl ?_
        refine wp_getr 66 rfl rfl rfl ?_
        refine wp_run 2 (pc' := 6) (ls' := [.ref 65, .int (nI kx2), .int x3]) (st' := [.ref 65, .int (nI kx2), .ref 66]) rfl ?_
        refine wp_geti (a := 1) 32 (hob.trans eb) rfl rfl rfl ?_
        refine wp_run 1 (pc' := 11) (ls' := [.ref 65, .int (nI kx2), .int x3]) (st' := [.int 8, .int 32, .int (nI kx2), .ref 66]) rfl ?_
        refine wp_icmp_t rfl (show ¬ (32 : Int32) = 8 from by decide) ?_
        refine wp_run 1 (pc' := 20) (ls' := [.ref 65, .int (nI kx2), .int x3]) (st' := [.ref 65, .int (nI kx2), .ref 66]) rfl ?_
        refine wp_geti (a := 1) 32 (hob.trans eb) rfl rfl rfl ?_
        refine wp_run 1 (pc' := 25) (ls' := [.ref 65, .int (nI kx2), .int x3]) (st' := [.int 16, .int 32, .int (nI kx2), .ref 66]) rfl ?_
        refine wp_icmp_t rfl (show ¬ (32 : Int32) = 16 from by decide) ?_
        refine wp_run 1 (pc' := 34) (ls' := [.ref 65, .int (nI kx2), .int x3]) (st' := [.int x3, .int (nI kx2), .ref 66]) rfl ?_
        refine wp_ast rfl rfl rfl (by omega) rfl ?_
        refine wp_retv rfl ?_
        show am_wp L xs _ _ _ _ 67 [.ref 0, .int 0, .int (nI kx2), .int x3] [] (am_S b) (am_u h 66 kx2 x3) _
        refine wp_run 1 (pc' := 68) (ls' := [.ref 0, .int 0, .int (nI kx2), .int x3]) (st' := [.int 1]) rfl ?_
        refine wp_ret rfl ?_
        refine kk _ _ _ (fun ms2 Q2 kk2 => ?_)
        refine wp_run 2 (pc' := 2) (ls' := [.ref 74, .int 0, .int (nI kx2), .int x3, am_du]) (st' := [.int 0, .ref 74]) rfl ?_
        refine wp_callV (o := 74) (as := [.int 0]) (rest := []) (els := [.ref 74, .int 0]) rfl rfl rfl rfl rfl rfl rfl rfl (by omega) ?_
        refine wp_run 1 (pc' := 1) (ls' := [.ref 74, .int 0]) (st' := [.int 0]) rfl ?_
        refine wp_callS (as := [.int 0]) (rest := []) (els := [.int 0]) rfl rfl rfl rfl rfl rfl rfl rfl (by omega) ?_
        refine sp_m_isSheet (by omega) (fun _ _ _ => ?_) (fun q => absurd rfl (q 0 (by omega)))
        show am_wp L xs _ _ _ _ 4 [.ref 74, .int 0] [.int 1] (am_S b) (am_u h 66 kx2 x3) _
        refine wp_if_t rfl (show ¬ (1 : Int32) = 0 from by decide) ?_
        refine wp_run 1 (pc' := 13) (ls' := [.ref 74, .int 0]) (st' := [.ref 74]) rfl ?_
        refine wp_getr 78 rfl rfl rfl ?_
        refine wp_run 1 (pc' := 17) (ls' := [.ref 74, .int 0]) (st' := [.int 0, .ref 78]) rfl ?_
        refine wp_ald (i := 0) 32 eb rfl rfl rfl (by decide) rfl ?_
        refine wp_if_t rfl (show ¬ (32 : Int32) = 0 from by decide) ?_
        refine wp_run 1 (pc' := 27) (ls' := [.ref 74, .int 0]) (st' := [.int 0]) rfl ?_
        refine wp_ret rfl ?_
        show am_wp L xs _ _ _ _ 5 [.ref 74, .int 0, .int (nI kx2), .int x3, am_du] [.int 0] (am_S b) (am_u h 66 kx2 x3) _
        refine wp_run 2 (pc' := 9) (ls' := [.ref 74, .int 0, .int (nI kx2), .int x3, .int 0]) (st' := [.int 0]) rfl ?_
        refine wp_if_f rfl (show ¬ (¬ (0 : Int32) = 0) from by decide) ?_
        refine wp_run 3 (pc' := 15) (ls' := [.ref 74, .int 0, .int (nI kx2), .int x3, .int 0]) (st' := [.ref 74, .int 0, .int (nI kx2)]) rfl ?_
        refine wp_getr 79 rfl rfl rfl ?_
        refine wp_run 1 (pc' := 19) (ls' := [.ref 74, .int 0, .int (nI kx2), .int x3, .int 0]) (st' := [.int 0, .ref 79, .int 0, .int (nI kx2)]) rfl ?_
        refine wp_ald (i := 0) (nI l) hz2 rfl rfl rfl (by decide) rfl ?_
        refine wp_run 2 (pc' := 22) (ls' := [.ref 74, .int 0, .int (nI kx2), .int x3, .int 0]) (st' := [.int ((nI l) - 1), .int 0, .int (nI kx2)]) rfl ?_
        refine wp_callS (as := [.int (nI kx2), .int 0, .int ((nI l) - 1)]) (rest := []) (els := [.int (nI kx2), .int 0, .int ((nI l) - 1)]) rfl rfl rfl rfl rfl rfl rfl rfl (by omega) ?_
        refine sp_m_in1 (m := l) (by omega) rfl (fun _ _ _ => ?_) (fun q => absurd rfl (q kx2 (by omega)))
        show am_wp L xs _ _ _ _ 25 [.ref 74, .int 0, .int (nI kx2), .int x3, .int 0] [.int 1] (am_S b) (am_u h 66 kx2 x3) _
        refine wp_if_t rfl (show ¬ (1 : Int32) = 0 from by decide) ?_
        refine wp_run 3 (pc' := 39) (ls' := [.ref 74, .int 0, .int (nI kx2), .int x3, .int 0]) (st' := [.int 0]) rfl ?_
        refine wp_if_t rfl (show (0 : Int32) = 0 from by decide) ?_
        refine wp_run 1 (pc' := 50) (ls' := [.ref 74, .int 0, .int (nI kx2), .int x3, .int 0]) (st' := [.ref 74]) rfl ?_
        refine wp_getr 80 rfl rfl rfl ?_
        refine wp_run 6 (pc' := 60) (ls' := [.ref 74, .int 0, .int (nI kx2), .int x3, .int 0]) (st' := [.ref 74, .int ((24 * 0) + (nI kx2)), .ref 80]) rfl ?_
        rw [show ((24 * 0) : Int32) = 0 from by decide]
        rw [show ((0 + (nI kx2)) : Int32) = (nI (0 + kx2)) from nI_add 0 kx2]
        refine wp_getr 78 rfl rfl rfl ?_
        refine wp_run 1 (pc' := 64) (ls' := [.ref 74, .int 0, .int (nI kx2), .int x3, .int 0]) (st' := [.int 0, .ref 78, .int (nI (0 + kx2)), .ref 80]) rfl ?_
        refine wp_ald (i := 0) 32 eb rfl rfl rfl (by decide) rfl ?_
        refine wp_run 1 (pc' := 67) (ls' := [.ref 74, .int 0, .int (nI kx2), .int x3, .int 0]) (st' := [.int 8, .int 32, .int (nI (0 + kx2)), .ref 80]) rfl ?_
        refine wp_icmp_t rfl (show ¬ (32 : Int32) = 8 from by decide) ?_
        refine wp_run 1 (pc' := 76) (ls' := [.ref 74, .int 0, .int (nI kx2), .int x3, .int 0]) (st' := [.ref 74, .int (nI (0 + kx2)), .ref 80]) rfl ?_
        refine wp_getr 78 rfl rfl rfl ?_
        refine wp_run 1 (pc' := 80) (ls' := [.ref 74, .int 0, .int (nI kx2), .int x3, .int 0]) (st' := [.int 0, .ref 78, .int (nI (0 + kx2)), .ref 80]) rfl ?_
        refine wp_ald (i := 0) 32 eb rfl rfl rfl (by decide) rfl ?_
        refine wp_run 1 (pc' := 83) (ls' := [.ref 74, .int 0, .int (nI kx2), .int x3, .int 0]) (st' := [.int 16, .int 32, .int (nI (0 + kx2)), .ref 80]) rfl ?_
        refine wp_icmp_t rfl (show ¬ (32 : Int32) = 16 from by decide) ?_
        refine wp_run 1 (pc' := 92) (ls' := [.ref 74, .int 0, .int (nI kx2), .int x3, .int 0]) (st' := [.int x3, .int (nI (0 + kx2)), .ref 80]) rfl ?_
        refine wp_ast rfl rfl rfl (by omega) rfl ?_
        refine wp_run 1 (pc' := 94) (ls' := [.ref 74, .int 0, .int (nI kx2), .int x3, .int 0]) (st' := [.int 1]) rfl ?_
        refine wp_ret rfl ?_
        exact kk2 _ _ ⟨⟨n, c, t, tp, wt, s0, s1, p0, p1, H⟩, re_im_s hI, hE, (re_sh_w hS0 (i := kx2) (by omega) x3), (re_sh_o hS1 (s2 := 0) (by omega) (i := kx2) (by omega) x3), (re_sh_o hS2 (s2 := 0) (by omega) (i := kx2) (by omega) x3), (re_sh_o hS3 (s2 := 0) (by omega) (i := kx2) (by omega) x3), hT⟩
      · skip
        intro hnx2
        show am_wp L xs _ _ _ _ 47 [.ref 0, .int 0, .int x2, .int x3] [.int 0] (am_S b) h _
        refine wp_if_f rfl (show ¬ (¬ (0 : Int32) = 0) from by decide) ?_
        refine wp_run 2 (pc' := 52) (ls' := [.ref 0, .int 0, .int x2, .int x3]) (st' := [.int 1, .ref 0]) rfl ?_
        refine wp_callV (o := 0) (as := [.int 1]) (rest := []) (els := [.ref 0, .int 1]) rfl rfl rfl rfl rfl rfl rfl rfl (by omega) ?_
        refine sp_refuse1 (by omega) ?_
        show am_wp L xs _ _ _ _ 55 [.ref 0, .int 0, .int x2, .int x3] [.int (-1000000001)] (am_S b) (am_u h 73 1 (h 73 1 + 1)) _
        refine wp_ret rfl ?_
        refine kk _ _ _ (fun ms2 Q2 kk2 => ?_)
        refine wp_run 2 (pc' := 2) (ls' := [.ref 74, .int 0, .int x2, .int x3, am_du]) (st' := [.int 0, .ref 74]) rfl ?_
        refine wp_callV (o := 74) (as := [.int 0]) (rest := []) (els := [.ref 74, .int 0]) rfl rfl rfl rfl rfl rfl rfl rfl (by omega) ?_
        refine wp_run 1 (pc' := 1) (ls' := [.ref 74, .int 0]) (st' := [.int 0]) rfl ?_
        refine wp_callS (as := [.int 0]) (rest := []) (els := [.int 0]) rfl rfl rfl rfl rfl rfl rfl rfl (by omega) ?_
        refine sp_m_isSheet (by omega) (fun _ _ _ => ?_) (fun q => absurd rfl (q 0 (by omega)))
        show am_wp L xs _ _ _ _ 4 [.ref 74, .int 0] [.int 1] (am_S b) (am_u h 73 1 (h 73 1 + 1)) _
        refine wp_if_t rfl (show ¬ (1 : Int32) = 0 from by decide) ?_
        refine wp_run 1 (pc' := 13) (ls' := [.ref 74, .int 0]) (st' := [.ref 74]) rfl ?_
        refine wp_getr 78 rfl rfl rfl ?_
        refine wp_run 1 (pc' := 17) (ls' := [.ref 74, .int 0]) (st' := [.int 0, .ref 78]) rfl ?_
        refine wp_ald (i := 0) 32 eb rfl rfl rfl (by decide) rfl ?_
        refine wp_if_t rfl (show ¬ (32 : Int32) = 0 from by decide) ?_
        refine wp_run 1 (pc' := 27) (ls' := [.ref 74, .int 0]) (st' := [.int 0]) rfl ?_
        refine wp_ret rfl ?_
        show am_wp L xs _ _ _ _ 5 [.ref 74, .int 0, .int x2, .int x3, am_du] [.int 0] (am_S b) (am_u h 73 1 (h 73 1 + 1)) _
        refine wp_run 2 (pc' := 9) (ls' := [.ref 74, .int 0, .int x2, .int x3, .int 0]) (st' := [.int 0]) rfl ?_
        refine wp_if_f rfl (show ¬ (¬ (0 : Int32) = 0) from by decide) ?_
        refine wp_run 3 (pc' := 15) (ls' := [.ref 74, .int 0, .int x2, .int x3, .int 0]) (st' := [.ref 74, .int 0, .int x2]) rfl ?_
        refine wp_getr 79 rfl rfl rfl ?_
        refine wp_run 1 (pc' := 19) (ls' := [.ref 74, .int 0, .int x2, .int x3, .int 0]) (st' := [.int 0, .ref 79, .int 0, .int x2]) rfl ?_
        refine wp_ald (i := 0) (nI l) hz2 rfl rfl rfl (by decide) rfl ?_
        refine wp_run 2 (pc' := 22) (ls' := [.ref 74, .int 0, .int x2, .int x3, .int 0]) (st' := [.int ((nI l) - 1), .int 0, .int x2]) rfl ?_
        refine wp_callS (as := [.int x2, .int 0, .int ((nI l) - 1)]) (rest := []) (els := [.int x2, .int 0, .int ((nI l) - 1)]) rfl rfl rfl rfl rfl rfl rfl rfl (by omega) ?_
        refine sp_m_in1 (m := l) (by omega) rfl (fun k hk e => absurd e (hnx2 k hk)) (fun _ => ?_)
        show am_wp L xs _ _ _ _ 25 [.ref 74, .int 0, .int x2, .int x3, .int 0] [.int 0] (am_S b) (am_u h 73 1 (h 73 1 + 1)) _
        refine wp_if_f rfl (show ¬ (¬ (0 : Int32) = 0) from by decide) ?_
        refine wp_run 4 (pc' := 39) (ls' := [.ref 74, .int 0, .int x2, .int x3, .int (-1000000001)]) (st' := [.int (-1000000001)]) rfl ?_
        refine wp_if_f rfl (show ¬ (((-1000000001) : Int32) = 0) from by decide) ?_
        refine wp_run 2 (pc' := 45) (ls' := [.ref 74, .int 0, .int x2, .int x3, .int (-1000000001)]) (st' := [.int (-1000000001), .ref 74]) rfl ?_
        refine wp_callV (o := 74) (as := [.int (-1000000001)]) (rest := []) (els := [.ref 74, .int (-1000000001)]) rfl rfl rfl rfl rfl rfl rfl rfl (by omega) ?_
        refine sp_error1 ?_
        show am_wp L xs _ _ _ _ 48 [.ref 74, .int 0, .int x2, .int x3, .int (-1000000001)] [.int (-1000000001)] (am_S b) (am_u (am_u h 73 1 (h 73 1 + 1)) 77 1 ((am_u h 73 1 (h 73 1 + 1)) 77 1 + 1)) _
        refine wp_ret rfl ?_
        exact kk2 _ _ (re_err1 hR)
  · skip
    intro ex1
    subst ex1
    show am_wp L xs _ _ _ _ 4 [.ref 0, .int 1, .int x2, .int x3] [.int 1] (am_S b) h _
    refine wp_if_t rfl (show ¬ (1 : Int32) = 0 from by decide) ?_
    obtain ⟨l, hl24, ho2, hz2, hob, hbb, hri⟩ := id hS1
    rcases hbb with ⟨eb, el⟩ | eb | eb | eb
    · skip
      refine wp_run 1 (pc' := 14) (ls' := [.ref 0, .int 1, .int x2, .int x3]) (st' := [.ref 0]) rfl ?_
      refine wp_getr 64 rfl rfl rfl ?_
      refine wp_run 1 (pc' := 18) (ls' := [.ref 0, .int 1, .int x2, .int x3]) (st' := [.int 1, .ref 64]) rfl ?_
      refine wp_aald (r := 67) rfl rfl (Or.inr rfl) rfl (by decide) rfl rfl ?_
      refine wp_callV (o := 67) (as := []) (rest := []) (els := [.ref 67]) rfl rfl rfl rfl rfl rfl rfl rfl (by omega) ?_
      refine wp_run 1 (pc' := 1) (ls' := [.ref 67]) (st' := [.ref 67]) rfl ?_
      refine wp_geti (a := 1) 0 (hob.trans eb) rfl rfl rfl ?_
      refine wp_if_f rfl (show ¬ (¬ (0 : Int32) = 0) from by decide) ?_
      refine wp_run 2 (pc' := 12) (ls' := [.ref 67]) (st' := [.int 1]) rfl ?_
      refine wp_retz rfl (Or.inr rfl) ?_
      show am_wp L xs _ _ _ _ 22 [.ref 0, .int 1, .int x2, .int x3] [.int 1] (am_S b) h _
      refine wp_if_f rfl (show ¬ ((1 : Int32) = 0) from by decide) ?_
      refine wp_run 2 (pc' := 27) (ls' := [.ref 0, .int 1, .int x2, .int x3]) (st' := [.int 2, .ref 0]) rfl ?_
      refine wp_callV (o := 0) (as := [.int 2]) (rest := []) (els := [.ref 0, .int 2]) rfl rfl rfl rfl rfl rfl rfl rfl (by omega) ?_
      refine sp_refuse2 (by omega) ?_
      show am_wp L xs _ _ _ _ 30 [.ref 0, .int 1, .int x2, .int x3] [.int (-1000000002)] (am_S b) (am_u h 73 2 (h 73 2 + 1)) _
      refine wp_ret rfl ?_
      refine kk _ _ _ (fun ms2 Q2 kk2 => ?_)
      refine wp_run 2 (pc' := 2) (ls' := [.ref 74, .int 1, .int x2, .int x3, am_du]) (st' := [.int 1, .ref 74]) rfl ?_
      refine wp_callV (o := 74) (as := [.int 1]) (rest := []) (els := [.ref 74, .int 1]) rfl rfl rfl rfl rfl rfl rfl rfl (by omega) ?_
      refine wp_run 1 (pc' := 1) (ls' := [.ref 74, .int 1]) (st' := [.int 1]) rfl ?_
      refine wp_callS (as := [.int 1]) (rest := []) (els := [.int 1]) rfl rfl rfl rfl rfl rfl rfl rfl (by omega) ?_
      refine sp_m_isSheet (by omega) (fun _ _ _ => ?_) (fun q => absurd rfl (q 1 (by omega)))
      show am_wp L xs _ _ _ _ 4 [.ref 74, .int 1] [.int 1] (am_S b) (am_u h 73 2 (h 73 2 + 1)) _
      refine wp_if_t rfl (show ¬ (1 : Int32) = 0 from by decide) ?_
      refine wp_run 1 (pc' := 13) (ls' := [.ref 74, .int 1]) (st' := [.ref 74]) rfl ?_
      refine wp_getr 78 rfl rfl rfl ?_
      refine wp_run 1 (pc' := 17) (ls' := [.ref 74, .int 1]) (st' := [.int 1, .ref 78]) rfl ?_
      refine wp_ald (i := 1) 0 eb rfl rfl rfl (by decide) rfl ?_
      refine wp_if_f rfl (show ¬ (¬ (0 : Int32) = 0) from by decide) ?_
      refine wp_run 2 (pc' := 27) (ls' := [.ref 74, .int 1]) (st' := [.int (-1000000002)]) rfl ?_
      refine wp_ret rfl ?_
      show am_wp L xs _ _ _ _ 5 [.ref 74, .int 1, .int x2, .int x3, am_du] [.int (-1000000002)] (am_S b) (am_u h 73 2 (h 73 2 + 1)) _
      refine wp_run 2 (pc' := 9) (ls' := [.ref 74, .int 1, .int x2, .int x3, .int (-1000000002)]) (st' := [.int (-1000000002)]) rfl ?_
      refine wp_if_t rfl (show ¬ ((-1000000002) : Int32) = 0 from by decide) ?_
      refine wp_run 3 (pc' := 39) (ls' := [.ref 74, .int 1, .int x2, .int x3, .int (-1000000002)]) (st' := [.int (-1000000002)]) rfl ?_
      refine wp_if_f rfl (show ¬ (((-1000000002) : Int32) = 0) from by decide) ?_
      refine wp_run 2 (pc' := 45) (ls' := [.ref 74, .int 1, .int x2, .int x3, .int (-1000000002)]) (st' := [.int (-1000000002), .ref 74]) rfl ?_
      refine wp_callV (o := 74) (as := [.int (-1000000002)]) (rest := []) (els := [.ref 74, .int (-1000000002)]) rfl rfl rfl rfl rfl rfl rfl rfl (by omega) ?_
      refine sp_error2 ?_
      show am_wp L xs _ _ _ _ 48 [.ref 74, .int 1, .int x2, .int x3, .int (-1000000002)] [.int (-1000000002)] (am_S b) (am_u (am_u h 73 2 (h 73 2 + 1)) 77 2 ((am_u h 73 2 (h 73 2 + 1)) 77 2 + 1)) _
      refine wp_ret rfl ?_
      exact kk2 _ _ (re_err2 hR)
    · skip
      refine wp_run 1 (pc' := 14) (ls' := [.ref 0, .int 1, .int x2, .int x3]) (st' := [.ref 0]) rfl ?_
      refine wp_getr 64 rfl rfl rfl ?_
      refine wp_run 1 (pc' := 18) (ls' := [.ref 0, .int 1, .int x2, .int x3]) (st' := [.int 1, .ref 64]) rfl ?_
      refine wp_aald (r := 67) rfl rfl (Or.inr rfl) rfl (by decide) rfl rfl ?_
      refine wp_callV (o := 67) (as := []) (rest := []) (els := [.ref 67]) rfl rfl rfl rfl rfl rfl rfl rfl (by omega) ?_
      refine wp_run 1 (pc' := 1) (ls' := [.ref 67]) (st' := [.ref 67]) rfl ?_
      refine wp_geti (a := 1) 8 (hob.trans eb) rfl rfl rfl ?_
      refine wp_if_t rfl (show ¬ (8 : Int32) = 0 from by decide) ?_
      refine wp_run 1 (pc' := 12) (ls' := [.ref 67]) (st' := [.int 0]) rfl ?_
      refine wp_retz rfl (Or.inl rfl) ?_
      show am_wp L xs _ _ _ _ 22 [.ref 0, .int 1, .int x2, .int x3] [.int 0] (am_S b) h _
      refine wp_if_t rfl (show (0 : Int32) = 0 from by decide) ?_
      refine wp_run 3 (pc' := 34) (ls' := [.ref 0, .int 1, .int x2, .int x3]) (st' := [.ref 0, .int 0, .int x2]) rfl ?_
      refine wp_getr 64 rfl rfl rfl ?_
      refine wp_run 1 (pc' := 38) (ls' := [.ref 0, .int 1, .int x2, .int x3]) (st' := [.int 1, .ref 64, .int 0, .int x2]) rfl ?_
      refine wp_aald (r := 67) rfl rfl (Or.inr rfl) rfl (by decide) rfl rfl ?_
      refine wp_geti (a := 2) (nI l) ho2 rfl rfl rfl ?_
      refine wp_run 2 (pc' := 44) (ls' := [.ref 0, .int 1, .int x2, .int x3]) (st' := [.int ((nI l) - 1), .int 0, .int x2]) rfl ?_
      refine wp_callS (as := [.int x2, .int 0, .int ((nI l) - 1)]) (rest := []) (els := [.int x2, .int 0, .int ((nI l) - 1)]) rfl rfl rfl rfl rfl rfl rfl rfl (by omega) ?_
      refine sp_x_within1 (m := l) (by omega) rfl ?_ ?_
      · skip
        intro kx2 hkx2 ex2
        subst ex2
        show am_wp L xs _ _ _ _ 47 [.ref 0, .int 1, .int (nI kx2), .int x3] [.int 1] (am_S b) h _
        refine wp_if_t rfl (show ¬ (1 : Int32) = 0 from by decide) ?_
        refine wp_run 1 (pc' := 57) (ls' := [.ref 0, .int 1, .int (nI kx2), .int x3]) (st' := [.ref 0]) rfl ?_
        refine wp_getr 64 rfl rfl rfl ?_
        refine wp_run 1 (pc' := 61) (ls' := [.ref 0, .int 1, .int (nI kx2), .int x3]) (st' := [.int 1, .ref 64]) rfl ?_
        refine wp_aald (r := 67) rfl rfl (Or.inr rfl) rfl (by decide) rfl rfl ?_
        refine wp_run 2 (pc' := 64) (ls' := [.ref 0, .int 1, .int (nI kx2), .int x3]) (st' := [.int x3, .int (nI kx2), .ref 67]) rfl ?_
        refine wp_callV (o := 67) (as := [.int (nI kx2), .int x3]) (rest := []) (els := [.ref 67, .int (nI kx2), .int x3]) rfl rfl rfl rfl rfl rfl rfl rfl (by omega) ?_
        refine wp_run 1 (pc' := 1) (ls' := [.ref 67, .int (nI kx2), .int x3]) (st' := [.ref 67]) rfl ?_
        refine wp_getr 68 rfl rfl rfl ?_
        refine wp_run 2 (pc' := 6) (ls' := [.ref 67, .int (nI kx2), .int x3]) (st' := [.ref 67, .int (nI kx2), .ref 68]) rfl ?_
        refine wp_geti (a := 1) 8 (hob.trans eb) rfl rfl rfl ?_
        refine wp_run 1 (pc' := 11) (ls' := [.ref 67, .int (nI kx2), .int x3]) (st' := [.int 8, .int 8, .int (nI kx2), .ref 68]) rfl ?_
        refine wp_icmp_f rfl (show ¬ (¬ (8 : Int32) = 8) from by decide) ?_
        refine wp_run 3 (pc' := 34) (ls' := [.ref 67, .int (nI kx2), .int x3]) (st' := [.int (Int32.toInt8 x3).toInt32, .int (nI kx2), .ref 68]) rfl ?_
        refine wp_ast rfl rfl rfl (by omega) rfl ?_
        refine wp_retv rfl ?_
        show am_wp L xs _ _ _ _ 67 [.ref 0, .int 1, .int (nI kx2), .int x3] [] (am_S b) (am_u h 68 kx2 (Int32.toInt8 x3).toInt32) _
        refine wp_run 1 (pc' := 68) (ls' := [.ref 0, .int 1, .int (nI kx2), .int x3]) (st' := [.int 1]) rfl ?_
        refine wp_ret rfl ?_
        refine kk _ _ _ (fun ms2 Q2 kk2 => ?_)
        refine wp_run 2 (pc' := 2) (ls' := [.ref 74, .int 1, .int (nI kx2), .int x3, am_du]) (st' := [.int 1, .ref 74]) rfl ?_
        refine wp_callV (o := 74) (as := [.int 1]) (rest := []) (els := [.ref 74, .int 1]) rfl rfl rfl rfl rfl rfl rfl rfl (by omega) ?_
        refine wp_run 1 (pc' := 1) (ls' := [.ref 74, .int 1]) (st' := [.int 1]) rfl ?_
        refine wp_callS (as := [.int 1]) (rest := []) (els := [.int 1]) rfl rfl rfl rfl rfl rfl rfl rfl (by omega) ?_
        refine sp_m_isSheet (by omega) (fun _ _ _ => ?_) (fun q => absurd rfl (q 1 (by omega)))
        show am_wp L xs _ _ _ _ 4 [.ref 74, .int 1] [.int 1] (am_S b) (am_u h 68 kx2 (Int32.toInt8 x3).toInt32) _
        refine wp_if_t rfl (show ¬ (1 : Int32) = 0 from by decide) ?_
        refine wp_run 1 (pc' := 13) (ls' := [.ref 74, .int 1]) (st' := [.ref 74]) rfl ?_
        refine wp_getr 78 rfl rfl rfl ?_
        refine wp_run 1 (pc' := 17) (ls' := [.ref 74, .int 1]) (st' := [.int 1, .ref 78]) rfl ?_
        refine wp_ald (i := 1) 8 eb rfl rfl rfl (by decide) rfl ?_
        refine wp_if_t rfl (show ¬ (8 : Int32) = 0 from by decide) ?_
        refine wp_run 1 (pc' := 27) (ls' := [.ref 74, .int 1]) (st' := [.int 0]) rfl ?_
        refine wp_ret rfl ?_
        show am_wp L xs _ _ _ _ 5 [.ref 74, .int 1, .int (nI kx2), .int x3, am_du] [.int 0] (am_S b) (am_u h 68 kx2 (Int32.toInt8 x3).toInt32) _
        refine wp_run 2 (pc' := 9) (ls' := [.ref 74, .int 1, .int (nI kx2), .int x3, .int 0]) (st' := [.int 0]) rfl ?_
        refine wp_if_f rfl (show ¬ (¬ (0 : Int32) = 0) from by decide) ?_
        refine wp_run 3 (pc' := 15) (ls' := [.ref 74, .int 1, .int (nI kx2), .int x3, .int 0]) (st' := [.ref 74, .int 0, .int (nI kx2)]) rfl ?_
        refine wp_getr 79 rfl rfl rfl ?_
        refine wp_run 1 (pc' := 19) (ls' := [.ref 74, .int 1, .int (nI kx2), .int x3, .int 0]) (st' := [.int 1, .ref 79, .int 0, .int (nI kx2)]) rfl ?_
        refine wp_ald (i := 1) (nI l) hz2 rfl rfl rfl (by decide) rfl ?_
        refine wp_run 2 (pc' := 22) (ls' := [.ref 74, .int 1, .int (nI kx2), .int x3, .int 0]) (st' := [.int ((nI l) - 1), .int 0, .int (nI kx2)]) rfl ?_
        refine wp_callS (as := [.int (nI kx2), .int 0, .int ((nI l) - 1)]) (rest := []) (els := [.int (nI kx2), .int 0, .int ((nI l) - 1)]) rfl rfl rfl rfl rfl rfl rfl rfl (by omega) ?_
        refine sp_m_in1 (m := l) (by omega) rfl (fun _ _ _ => ?_) (fun q => absurd rfl (q kx2 (by omega)))
        show am_wp L xs _ _ _ _ 25 [.ref 74, .int 1, .int (nI kx2), .int x3, .int 0] [.int 1] (am_S b) (am_u h 68 kx2 (Int32.toInt8 x3).toInt32) _
        refine wp_if_t rfl (show ¬ (1 : Int32) = 0 from by decide) ?_
        refine wp_run 3 (pc' := 39) (ls' := [.ref 74, .int 1, .int (nI kx2), .int x3, .int 0]) (st' := [.int 0]) rfl ?_
        refine wp_if_t rfl (show (0 : Int32) = 0 from by decide) ?_
        refine wp_run 1 (pc' := 50) (ls' := [.ref 74, .int 1, .int (nI kx2), .int x3, .int 0]) (st' := [.ref 74]) rfl ?_
        refine wp_getr 80 rfl rfl rfl ?_
        refine wp_run 6 (pc' := 60) (ls' := [.ref 74, .int 1, .int (nI kx2), .int x3, .int 0]) (st' := [.ref 74, .int ((24 * 1) + (nI kx2)), .ref 80]) rfl ?_
        rw [show ((24 * 1) : Int32) = 24 from by decide]
        rw [show ((24 + (nI kx2)) : Int32) = (nI (24 + kx2)) from nI_add 24 kx2]
        refine wp_getr 78 rfl rfl rfl ?_
        refine wp_run 1 (pc' := 64) (ls' := [.ref 74, .int 1, .int (nI kx2), .int x3, .int 0]) (st' := [.int 1, .ref 78, .int (nI (24 + kx2)), .ref 80]) rfl ?_
        refine wp_ald (i := 1) 8 eb rfl rfl rfl (by decide) rfl ?_
        refine wp_run 1 (pc' := 67) (ls' := [.ref 74, .int 1, .int (nI kx2), .int x3, .int 0]) (st' := [.int 8, .int 8, .int (nI (24 + kx2)), .ref 80]) rfl ?_
        refine wp_icmp_f rfl (show ¬ (¬ (8 : Int32) = 8) from by decide) ?_
        refine wp_run 3 (pc' := 92) (ls' := [.ref 74, .int 1, .int (nI kx2), .int x3, .int 0]) (st' := [.int (Int32.toInt8 x3).toInt32, .int (nI (24 + kx2)), .ref 80]) rfl ?_
        refine wp_ast rfl rfl rfl (by omega) rfl ?_
        refine wp_run 1 (pc' := 94) (ls' := [.ref 74, .int 1, .int (nI kx2), .int x3, .int 0]) (st' := [.int 1]) rfl ?_
        refine wp_ret rfl ?_
        exact kk2 _ _ ⟨⟨n, c, t, tp, wt, s0, s1, p0, p1, H⟩, re_im_s hI, hE, (re_sh_o hS0 (s2 := 1) (by omega) (i := kx2) (by omega) ((Int32.toInt8 x3).toInt32)), (re_sh_w hS1 (i := kx2) (by omega) ((Int32.toInt8 x3).toInt32)), (re_sh_o hS2 (s2 := 1) (by omega) (i := kx2) (by omega) ((Int32.toInt8 x3).toInt32)), (re_sh_o hS3 (s2 := 1) (by omega) (i := kx2) (by omega) ((Int32.toInt8 x3).toInt32)), hT⟩
      · skip
        intro hnx2
        show am_wp L xs _ _ _ _ 47 [.ref 0, .int 1, .int x2, .int x3] [.int 0] (am_S b) h _
        refine wp_if_f rfl (show ¬ (¬ (0 : Int32) = 0) from by decide) ?_
        refine wp_run 2 (pc' := 52) (ls' := [.ref 0, .int 1, .int x2, .int x3]) (st' := [.int 1, .ref 0]) rfl ?_
        refine wp_callV (o := 0) (as := [.int 1]) (rest := []) (els := [.ref 0, .int 1]) rfl rfl rfl rfl rfl rfl rfl rfl (by omega) ?_
        refine sp_refuse1 (by omega) ?_
        show am_wp L xs _ _ _ _ 55 [.ref 0, .int 1, .int x2, .int x3] [.int (-1000000001)] (am_S b) (am_u h 73 1 (h 73 1 + 1)) _
        refine wp_ret rfl ?_
        refine kk _ _ _ (fun ms2 Q2 kk2 => ?_)
        refine wp_run 2 (pc' := 2) (ls' := [.ref 74, .int 1, .int x2, .int x3, am_du]) (st' := [.int 1, .ref 74]) rfl ?_
        refine wp_callV (o := 74) (as := [.int 1]) (rest := []) (els := [.ref 74, .int 1]) rfl rfl rfl rfl rfl rfl rfl rfl (by omega) ?_
        refine wp_run 1 (pc' := 1) (ls' := [.ref 74, .int 1]) (st' := [.int 1]) rfl ?_
        refine wp_callS (as := [.int 1]) (rest := []) (els := [.int 1]) rfl rfl rfl rfl rfl rfl rfl rfl (by omega) ?_
        refine sp_m_isSheet (by omega) (fun _ _ _ => ?_) (fun q => absurd rfl (q 1 (by omega)))
        show am_wp L xs _ _ _ _ 4 [.ref 74, .int 1] [.int 1] (am_S b) (am_u h 73 1 (h 73 1 + 1)) _
        refine wp_if_t rfl (show ¬ (1 : Int32) = 0 from by decide) ?_
        refine wp_run 1 (pc' := 13) (ls' := [.ref 74, .int 1]) (st' := [.ref 74]) rfl ?_
        refine wp_getr 78 rfl rfl rfl ?_
        refine wp_run 1 (pc' := 17) (ls' := [.ref 74, .int 1]) (st' := [.int 1, .ref 78]) rfl ?_
        refine wp_ald (i := 1) 8 eb rfl rfl rfl (by decide) rfl ?_
        refine wp_if_t rfl (show ¬ (8 : Int32) = 0 from by decide) ?_
        refine wp_run 1 (pc' := 27) (ls' := [.ref 74, .int 1]) (st' := [.int 0]) rfl ?_
        refine wp_ret rfl ?_
        show am_wp L xs _ _ _ _ 5 [.ref 74, .int 1, .int x2, .int x3, am_du] [.int 0] (am_S b) (am_u h 73 1 (h 73 1 + 1)) _
        refine wp_run 2 (pc' := 9) (ls' := [.ref 74, .int 1, .int x2, .int x3, .int 0]) (st' := [.int 0]) rfl ?_
        refine wp_if_f rfl (show ¬ (¬ (0 : Int32) = 0) from by decide) ?_
        refine wp_run 3 (pc' := 15) (ls' := [.ref 74, .int 1, .int x2, .int x3, .int 0]) (st' := [.ref 74, .int 0, .int x2]) rfl ?_
        refine wp_getr 79 rfl rfl rfl ?_
        refine wp_run 1 (pc' := 19) (ls' := [.ref 74, .int 1, .int x2, .int x3, .int 0]) (st' := [.int 1, .ref 79, .int 0, .int x2]) rfl ?_
        refine wp_ald (i := 1) (nI l) hz2 rfl rfl rfl (by decide) rfl ?_
        refine wp_run 2 (pc' := 22) (ls' := [.ref 74, .int 1, .int x2, .int x3, .int 0]) (st' := [.int ((nI l) - 1), .int 0, .int x2]) rfl ?_
        refine wp_callS (as := [.int x2, .int 0, .int ((nI l) - 1)]) (rest := []) (els := [.int x2, .int 0, .int ((nI l) - 1)]) rfl rfl rfl rfl rfl rfl rfl rfl (by omega) ?_
        refine sp_m_in1 (m := l) (by omega) rfl (fun k hk e => absurd e (hnx2 k hk)) (fun _ => ?_)
        show am_wp L xs _ _ _ _ 25 [.ref 74, .int 1, .int x2, .int x3, .int 0] [.int 0] (am_S b) (am_u h 73 1 (h 73 1 + 1)) _
        refine wp_if_f rfl (show ¬ (¬ (0 : Int32) = 0) from by decide) ?_
        refine wp_run 4 (pc' := 39) (ls' := [.ref 74, .int 1, .int x2, .int x3, .int (-1000000001)]) (st' := [.int (-1000000001)]) rfl ?_
        refine wp_if_f rfl (show ¬ (((-1000000001) : Int32) = 0) from by decide) ?_
        refine wp_run 2 (pc' := 45) (ls' := [.ref 74, .int 1, .int x2, .int x3, .int (-1000000001)]) (st' := [.int (-1000000001), .ref 74]) rfl ?_
        refine wp_callV (o := 74) (as := [.int (-1000000001)]) (rest := []) (els := [.ref 74, .int (-1000000001)]) rfl rfl rfl rfl rfl rfl rfl rfl (by omega) ?_
        refine sp_error1 ?_
        show am_wp L xs _ _ _ _ 48 [.ref 74, .int 1, .int x2, .int x3, .int (-1000000001)] [.int (-1000000001)] (am_S b) (am_u (am_u h 73 1 (h 73 1 + 1)) 77 1 ((am_u h 73 1 (h 73 1 + 1)) 77 1 + 1)) _
        refine wp_ret rfl ?_
        exact kk2 _ _ (re_err1 hR)
    · skip
      refine wp_run 1 (pc' := 14) (ls' := [.ref 0, .int 1, .int x2, .int x3]) (st' := [.ref 0]) rfl ?_
      refine wp_getr 64 rfl rfl rfl ?_
      refine wp_run 1 (pc' := 18) (ls' := [.ref 0, .int 1, .int x2, .int x3]) (st' := [.int 1, .ref 64]) rfl ?_
      refine wp_aald (r := 67) rfl rfl (Or.inr rfl) rfl (by decide) rfl rfl ?_
      refine wp_callV (o := 67) (as := []) (rest := []) (els := [.ref 67]) rfl rfl rfl rfl rfl rfl rfl rfl (by omega) ?_
      refine wp_run 1 (pc' := 1) (ls' := [.ref 67]) (st' := [.ref 67]) rfl ?_
      refine wp_geti (a := 1) 16 (hob.trans eb) rfl rfl rfl ?_
      refine wp_if_t rfl (show ¬ (16 : Int32) = 0 from by decide) ?_
      refine wp_run 1 (pc' := 12) (ls' := [.ref 67]) (st' := [.int 0]) rfl ?_
      refine wp_retz rfl (Or.inl rfl) ?_
      show am_wp L xs _ _ _ _ 22 [.ref 0, .int 1, .int x2, .int x3] [.int 0] (am_S b) h _
      refine wp_if_t rfl (show (0 : Int32) = 0 from by decide) ?_
      refine wp_run 3 (pc' := 34) (ls' := [.ref 0, .int 1, .int x2, .int x3]) (st' := [.ref 0, .int 0, .int x2]) rfl ?_
      refine wp_getr 64 rfl rfl rfl ?_
      refine wp_run 1 (pc' := 38) (ls' := [.ref 0, .int 1, .int x2, .int x3]) (st' := [.int 1, .ref 64, .int 0, .int x2]) rfl ?_
      refine wp_aald (r := 67) rfl rfl (Or.inr rfl) rfl (by decide) rfl rfl ?_
      refine wp_geti (a := 2) (nI l) ho2 rfl rfl rfl ?_
      refine wp_run 2 (pc' := 44) (ls' := [.ref 0, .int 1, .int x2, .int x3]) (st' := [.int ((nI l) - 1), .int 0, .int x2]) rfl ?_
      refine wp_callS (as := [.int x2, .int 0, .int ((nI l) - 1)]) (rest := []) (els := [.int x2, .int 0, .int ((nI l) - 1)]) rfl rfl rfl rfl rfl rfl rfl rfl (by omega) ?_
      refine sp_x_within1 (m := l) (by omega) rfl ?_ ?_
      · skip
        intro kx2 hkx2 ex2
        subst ex2
        show am_wp L xs _ _ _ _ 47 [.ref 0, .int 1, .int (nI kx2), .int x3] [.int 1] (am_S b) h _
        refine wp_if_t rfl (show ¬ (1 : Int32) = 0 from by decide) ?_
        refine wp_run 1 (pc' := 57) (ls' := [.ref 0, .int 1, .int (nI kx2), .int x3]) (st' := [.ref 0]) rfl ?_
        refine wp_getr 64 rfl rfl rfl ?_
        refine wp_run 1 (pc' := 61) (ls' := [.ref 0, .int 1, .int (nI kx2), .int x3]) (st' := [.int 1, .ref 64]) rfl ?_
        refine wp_aald (r := 67) rfl rfl (Or.inr rfl) rfl (by decide) rfl rfl ?_
        refine wp_run 2 (pc' := 64) (ls' := [.ref 0, .int 1, .int (nI kx2), .int x3]) (st' := [.int x3, .int (nI kx2), .ref 67]) rfl ?_
        refine wp_callV (o := 67) (as := [.int (nI kx2), .int x3]) (rest := []) (els := [.ref 67, .int (nI kx2), .int x3]) rfl rfl rfl rfl rfl rfl rfl rfl (by omega) ?_
        refine wp_run 1 (pc' := 1) (ls' := [.ref 67, .int (nI kx2), .int x3]) (st' := [.ref 67]) rfl ?_
        refine wp_getr 68 rfl rfl rfl ?_
        refine wp_run 2 (pc' := 6) (ls' := [.ref 67, .int (nI kx2), .int x3]) (st' := [.ref 67, .int (nI kx2), .ref 68]) rfl ?_
        refine wp_geti (a := 1) 16 (hob.trans eb) rfl rfl rfl ?_
        refine wp_run 1 (pc' := 11) (ls' := [.ref 67, .int (nI kx2), .int x3]) (st' := [.int 8, .int 16, .int (nI kx2), .ref 68]) rfl ?_
        refine wp_icmp_t rfl (show ¬ (16 : Int32) = 8 from by decide) ?_
        refine wp_run 1 (pc' := 20) (ls' := [.ref 67, .int (nI kx2), .int x3]) (st' := [.ref 67, .int (nI kx2), .ref 68]) rfl ?_
        refine wp_geti (a := 1) 16 (hob.trans eb) rfl rfl rfl ?_
        refine wp_run 1 (pc' := 25) (ls' := [.ref 67, .int (nI kx2), .int x3]) (st' := [.int 16, .int 16, .int (nI kx2), .ref 68]) rfl ?_
        refine wp_icmp_f rfl (show ¬ (¬ (16 : Int32) = 16) from by decide) ?_
        refine wp_run 3 (pc' := 34) (ls' := [.ref 67, .int (nI kx2), .int x3]) (st' := [.int (Int32.toInt16 x3).toInt32, .int (nI kx2), .ref 68]) rfl ?_
        refine wp_ast rfl rfl rfl (by omega) rfl ?_
        refine wp_retv rfl ?_
        show am_wp L xs _ _ _ _ 67 [.ref 0, .int 1, .int (nI kx2), .int x3] [] (am_S b) (am_u h 68 kx2 (Int32.toInt16 x3).toInt32) _
        refine wp_run 1 (pc' := 68) (ls' := [.ref 0, .int 1, .int (nI kx2), .int x3]) (st' := [.int 1]) rfl ?_
        refine wp_ret rfl ?_
        refine kk _ _ _ (fun ms2 Q2 kk2 => ?_)
        refine wp_run 2 (pc' := 2) (ls' := [.ref 74, .int 1, .int (nI kx2), .int x3, am_du]) (st' := [.int 1, .ref 74]) rfl ?_
        refine wp_callV (o := 74) (as := [.int 1]) (rest := []) (els := [.ref 74, .int 1]) rfl rfl rfl rfl rfl rfl rfl rfl (by omega) ?_
        refine wp_run 1 (pc' := 1) (ls' := [.ref 74, .int 1]) (st' := [.int 1]) rfl ?_
        refine wp_callS (as := [.int 1]) (rest := []) (els := [.int 1]) rfl rfl rfl rfl rfl rfl rfl rfl (by omega) ?_
        refine sp_m_isSheet (by omega) (fun _ _ _ => ?_) (fun q => absurd rfl (q 1 (by omega)))
        show am_wp L xs _ _ _ _ 4 [.ref 74, .int 1] [.int 1] (am_S b) (am_u h 68 kx2 (Int32.toInt16 x3).toInt32) _
        refine wp_if_t rfl (show ¬ (1 : Int32) = 0 from by decide) ?_
        refine wp_run 1 (pc' := 13) (ls' := [.ref 74, .int 1]) (st' := [.ref 74]) rfl ?_
        refine wp_getr 78 rfl rfl rfl ?_
        refine wp_run 1 (pc' := 17) (ls' := [.ref 74, .int 1]) (st' := [.int 1, .ref 78]) rfl ?_
        refine wp_ald (i := 1) 16 eb rfl rfl rfl (by decide) rfl ?_
        refine wp_if_t rfl (show ¬ (16 : Int32) = 0 from by decide) ?_
        refine wp_run 1 (pc' := 27) (ls' := [.ref 74, .int 1]) (st' := [.int 0]) rfl ?_
        refine wp_ret rfl ?_
        show am_wp L xs _ _ _ _ 5 [.ref 74, .int 1, .int (nI kx2), .int x3, am_du] [.int 0] (am_S b) (am_u h 68 kx2 (Int32.toInt16 x3).toInt32) _
        refine wp_run 2 (pc' := 9) (ls' := [.ref 74, .int 1, .int (nI kx2), .int x3, .int 0]) (st' := [.int 0]) rfl ?_
        refine wp_if_f rfl (show ¬ (¬ (0 : Int32) = 0) from by decide) ?_
        refine wp_run 3 (pc' := 15) (ls' := [.ref 74, .int 1, .int (nI kx2), .int x3, .int 0]) (st' := [.ref 74, .int 0, .int (nI kx2)]) rfl ?_
        refine wp_getr 79 rfl rfl rfl ?_
        refine wp_run 1 (pc' := 19) (ls' := [.ref 74, .int 1, .int (nI kx2), .int x3, .int 0]) (st' := [.int 1, .ref 79, .int 0, .int (nI kx2)]) rfl ?_
        refine wp_ald (i := 1) (nI l) hz2 rfl rfl rfl (by decide) rfl ?_
        refine wp_run 2 (pc' := 22) (ls' := [.ref 74, .int 1, .int (nI kx2), .int x3, .int 0]) (st' := [.int ((nI l) - 1), .int 0, .int (nI kx2)]) rfl ?_
        refine wp_callS (as := [.int (nI kx2), .int 0, .int ((nI l) - 1)]) (rest := []) (els := [.int (nI kx2), .int 0, .int ((nI l) - 1)]) rfl rfl rfl rfl rfl rfl rfl rfl (by omega) ?_
        refine sp_m_in1 (m := l) (by omega) rfl (fun _ _ _ => ?_) (fun q => absurd rfl (q kx2 (by omega)))
        show am_wp L xs _ _ _ _ 25 [.ref 74, .int 1, .int (nI kx2), .int x3, .int 0] [.int 1] (am_S b) (am_u h 68 kx2 (Int32.toInt16 x3).toInt32) _
        refine wp_if_t rfl (show ¬ (1 : Int32) = 0 from by decide) ?_
        refine wp_run 3 (pc' := 39) (ls' := [.ref 74, .int 1, .int (nI kx2), .int x3, .int 0]) (st' := [.int 0]) rfl ?_
        refine wp_if_t rfl (show (0 : Int32) = 0 from by decide) ?_
        refine wp_run 1 (pc' := 50) (ls' := [.ref 74, .int 1, .int (nI kx2), .int x3, .int 0]) (st' := [.ref 74]) rfl ?_
        refine wp_getr 80 rfl rfl rfl ?_
        refine wp_run 6 (pc' := 60) (ls' := [.ref 74, .int 1, .int (nI kx2), .int x3, .int 0]) (st' := [.ref 74, .int ((24 * 1) + (nI kx2)), .ref 80]) rfl ?_
        rw [show ((24 * 1) : Int32) = 24 from by decide]
        rw [show ((24 + (nI kx2)) : Int32) = (nI (24 + kx2)) from nI_add 24 kx2]
        refine wp_getr 78 rfl rfl rfl ?_
        refine wp_run 1 (pc' := 64) (ls' := [.ref 74, .int 1, .int (nI kx2), .int x3, .int 0]) (st' := [.int 1, .ref 78, .int (nI (24 + kx2)), .ref 80]) rfl ?_
        refine wp_ald (i := 1) 16 eb rfl rfl rfl (by decide) rfl ?_
        refine wp_run 1 (pc' := 67) (ls' := [.ref 74, .int 1, .int (nI kx2), .int x3, .int 0]) (st' := [.int 8, .int 16, .int (nI (24 + kx2)), .ref 80]) rfl ?_
        refine wp_icmp_t rfl (show ¬ (16 : Int32) = 8 from by decide) ?_
        refine wp_run 1 (pc' := 76) (ls' := [.ref 74, .int 1, .int (nI kx2), .int x3, .int 0]) (st' := [.ref 74, .int (nI (24 + kx2)), .ref 80]) rfl ?_
        refine wp_getr 78 rfl rfl rfl ?_
        refine wp_run 1 (pc' := 80) (ls' := [.ref 74, .int 1, .int (nI kx2), .int x3, .int 0]) (st' := [.int 1, .ref 78, .int (nI (24 + kx2)), .ref 80]) rfl ?_
        refine wp_ald (i := 1) 16 eb rfl rfl rfl (by decide) rfl ?_
        refine wp_run 1 (pc' := 83) (ls' := [.ref 74, .int 1, .int (nI kx2), .int x3, .int 0]) (st' := [.int 16, .int 16, .int (nI (24 + kx2)), .ref 80]) rfl ?_
        refine wp_icmp_f rfl (show ¬ (¬ (16 : Int32) = 16) from by decide) ?_
        refine wp_run 3 (pc' := 92) (ls' := [.ref 74, .int 1, .int (nI kx2), .int x3, .int 0]) (st' := [.int (Int32.toInt16 x3).toInt32, .int (nI (24 + kx2)), .ref 80]) rfl ?_
        refine wp_ast rfl rfl rfl (by omega) rfl ?_
        refine wp_run 1 (pc' := 94) (ls' := [.ref 74, .int 1, .int (nI kx2), .int x3, .int 0]) (st' := [.int 1]) rfl ?_
        refine wp_ret rfl ?_
        exact kk2 _ _ ⟨⟨n, c, t, tp, wt, s0, s1, p0, p1, H⟩, re_im_s hI, hE, (re_sh_o hS0 (s2 := 1) (by omega) (i := kx2) (by omega) ((Int32.toInt16 x3).toInt32)), (re_sh_w hS1 (i := kx2) (by omega) ((Int32.toInt16 x3).toInt32)), (re_sh_o hS2 (s2 := 1) (by omega) (i := kx2) (by omega) ((Int32.toInt16 x3).toInt32)), (re_sh_o hS3 (s2 := 1) (by omega) (i := kx2) (by omega) ((Int32.toInt16 x3).toInt32)), hT⟩
      · skip
        intro hnx2
        show am_wp L xs _ _ _ _ 47 [.ref 0, .int 1, .int x2, .int x3] [.int 0] (am_S b) h _
        refine wp_if_f rfl (show ¬ (¬ (0 : Int32) = 0) from by decide) ?_
        refine wp_run 2 (pc' := 52) (ls' := [.ref 0, .int 1, .int x2, .int x3]) (st' := [.int 1, .ref 0]) rfl ?_
        refine wp_callV (o := 0) (as := [.int 1]) (rest := []) (els := [.ref 0, .int 1]) rfl rfl rfl rfl rfl rfl rfl rfl (by omega) ?_
        refine sp_refuse1 (by omega) ?_
        show am_wp L xs _ _ _ _ 55 [.ref 0, .int 1, .int x2, .int x3] [.int (-1000000001)] (am_S b) (am_u h 73 1 (h 73 1 + 1)) _
        refine wp_ret rfl ?_
        refine kk _ _ _ (fun ms2 Q2 kk2 => ?_)
        refine wp_run 2 (pc' := 2) (ls' := [.ref 74, .int 1, .int x2, .int x3, am_du]) (st' := [.int 1, .ref 74]) rfl ?_
        refine wp_callV (o := 74) (as := [.int 1]) (rest := []) (els := [.ref 74, .int 1]) rfl rfl rfl rfl rfl rfl rfl rfl (by omega) ?_
        refine wp_run 1 (pc' := 1) (ls' := [.ref 74, .int 1]) (st' := [.int 1]) rfl ?_
        refine wp_callS (as := [.int 1]) (rest := []) (els := [.int 1]) rfl rfl rfl rfl rfl rfl rfl rfl (by omega) ?_
        refine sp_m_isSheet (by omega) (fun _ _ _ => ?_) (fun q => absurd rfl (q 1 (by omega)))
        show am_wp L xs _ _ _ _ 4 [.ref 74, .int 1] [.int 1] (am_S b) (am_u h 73 1 (h 73 1 + 1)) _
        refine wp_if_t rfl (show ¬ (1 : Int32) = 0 from by decide) ?_
        refine wp_run 1 (pc' := 13) (ls' := [.ref 74, .int 1]) (st' := [.ref 74]) rfl ?_
        refine wp_getr 78 rfl rfl rfl ?_
        refine wp_run 1 (pc' := 17) (ls' := [.ref 74, .int 1]) (st' := [.int 1, .ref 78]) rfl ?_
        refine wp_ald (i := 1) 16 eb rfl rfl rfl (by decide) rfl ?_
        refine wp_if_t rfl (show ¬ (16 : Int32) = 0 from by decide) ?_
        refine wp_run 1 (pc' := 27) (ls' := [.ref 74, .int 1]) (st' := [.int 0]) rfl ?_
        refine wp_ret rfl ?_
        show am_wp L xs _ _ _ _ 5 [.ref 74, .int 1, .int x2, .int x3, am_du] [.int 0] (am_S b) (am_u h 73 1 (h 73 1 + 1)) _
        refine wp_run 2 (pc' := 9) (ls' := [.ref 74, .int 1, .int x2, .int x3, .int 0]) (st' := [.int 0]) rfl ?_
        refine wp_if_f rfl (show ¬ (¬ (0 : Int32) = 0) from by decide) ?_
        refine wp_run 3 (pc' := 15) (ls' := [.ref 74, .int 1, .int x2, .int x3, .int 0]) (st' := [.ref 74, .int 0, .int x2]) rfl ?_
        refine wp_getr 79 rfl rfl rfl ?_
        refine wp_run 1 (pc' := 19) (ls' := [.ref 74, .int 1, .int x2, .int x3, .int 0]) (st' := [.int 1, .ref 79, .int 0, .int x2]) rfl ?_
        refine wp_ald (i := 1) (nI l) hz2 rfl rfl rfl (by decide) rfl ?_
        refine wp_run 2 (pc' := 22) (ls' := [.ref 74, .int 1, .int x2, .int x3, .int 0]) (st' := [.int ((nI l) - 1), .int 0, .int x2]) rfl ?_
        refine wp_callS (as := [.int x2, .int 0, .int ((nI l) - 1)]) (rest := []) (els := [.int x2, .int 0, .int ((nI l) - 1)]) rfl rfl rfl rfl rfl rfl rfl rfl (by omega) ?_
        refine sp_m_in1 (m := l) (by omega) rfl (fun k hk e => absurd e (hnx2 k hk)) (fun _ => ?_)
        show am_wp L xs _ _ _ _ 25 [.ref 74, .int 1, .int x2, .int x3, .int 0] [.int 0] (am_S b) (am_u h 73 1 (h 73 1 + 1)) _
        refine wp_if_f rfl (show ¬ (¬ (0 : Int32) = 0) from by decide) ?_
        refine wp_run 4 (pc' := 39) (ls' := [.ref 74, .int 1, .int x2, .int x3, .int (-1000000001)]) (st' := [.int (-1000000001)]) rfl ?_
        refine wp_if_f rfl (show ¬ (((-1000000001) : Int32) = 0) from by decide) ?_
        refine wp_run 2 (pc' := 45) (ls' := [.ref 74, .int 1, .int x2, .int x3, .int (-1000000001)]) (st' := [.int (-1000000001), .ref 74]) rfl ?_
        refine wp_callV (o := 74) (as := [.int (-1000000001)]) (rest := []) (els := [.ref 74, .int (-1000000001)]) rfl rfl rfl rfl rfl rfl rfl rfl (by omega) ?_
        refine sp_error1 ?_
        show am_wp L xs _ _ _ _ 48 [.ref 74, .int 1, .int x2, .int x3, .int (-1000000001)] [.int (-1000000001)] (am_S b) (am_u (am_u h 73 1 (h 73 1 + 1)) 77 1 ((am_u h 73 1 (h 73 1 + 1)) 77 1 + 1)) _
        refine wp_ret rfl ?_
        exact kk2 _ _ (re_err1 hR)
    · skip
      refine wp_run 1 (pc' := 14) (ls' := [.ref 0, .int 1, .int x2, .int x3]) (st' := [.ref 0]) rfl ?_
      refine wp_getr 64 rfl rfl rfl ?_
      refine wp_run 1 (pc' := 18) (ls' := [.ref 0, .int 1, .int x2, .int x3]) (st' := [.int 1, .ref 64]) rfl ?_
      refine wp_aald (r := 67) rfl rfl (Or.inr rfl) rfl (by decide) rfl rfl ?_
      refine wp_callV (o := 67) (as := []) (rest := []) (els := [.ref 67]) rfl rfl rfl rfl rfl rfl rfl rfl (by omega) ?_
      refine wp_run 1 (pc' := 1) (ls' := [.ref 67]) (st' := [.ref 67]) rfl ?_
      refine wp_geti (a := 1) 32 (hob.trans eb) rfl rfl rfl ?_
      refine wp_if_t rfl (show ¬ (32 : Int32) = 0 from by decide) ?_
      refine wp_run 1 (pc' := 12) (ls' := [.ref 67]) (st' := [.int 0]) rfl ?_
      refine wp_retz rfl (Or.inl rfl) ?_
      show am_wp L xs _ _ _ _ 22 [.ref 0, .int 1, .int x2, .int x3] [.int 0] (am_S b) h _
      refine wp_if_t rfl (show (0 : Int32) = 0 from by decide) ?_
      refine wp_run 3 (pc' := 34) (ls' := [.ref 0, .int 1, .int x2, .int x3]) (st' := [.ref 0, .int 0, .int x2]) rfl ?_
      refine wp_getr 64 rfl rfl rfl ?_
      refine wp_run 1 (pc' := 38) (ls' := [.ref 0, .int 1, .int x2, .int x3]) (st' := [.int 1, .ref 64, .int 0, .int x2]) rfl ?_
      refine wp_aald (r := 67) rfl rfl (Or.inr rfl) rfl (by decide) rfl rfl ?_
      refine wp_geti (a := 2) (nI l) ho2 rfl rfl rfl ?_
      refine wp_run 2 (pc' := 44) (ls' := [.ref 0, .int 1, .int x2, .int x3]) (st' := [.int ((nI l) - 1), .int 0, .int x2]) rfl ?_
      refine wp_callS (as := [.int x2, .int 0, .int ((nI l) - 1)]) (rest := []) (els := [.int x2, .int 0, .int ((nI l) - 1)]) rfl rfl rfl rfl rfl rfl rfl rfl (by omega) ?_
      refine sp_x_within1 (m := l) (by omega) rfl ?_ ?_
      · skip
        intro kx2 hkx2 ex2
        subst ex2
        show am_wp L xs _ _ _ _ 47 [.ref 0, .int 1, .int (nI kx2), .int x3] [.int 1] (am_S b) h _
        refine wp_if_t rfl (show ¬ (1 : Int32) = 0 from by decide) ?_
        refine wp_run 1 (pc' := 57) (ls' := [.ref 0, .int 1, .int (nI kx2), .int x3]) (st' := [.ref 0]) rfl ?_
        refine wp_getr 64 rfl rfl rfl ?_
        refine wp_run 1 (pc' := 61) (ls' := [.ref 0, .int 1, .int (nI kx2), .int x3]) (st' := [.int 1, .ref 64]) rfl ?_
        refine wp_aald (r := 67) rfl rfl (Or.inr rfl) rfl (by decide) rfl rfl ?_
        refine wp_run 2 (pc' := 64) (ls' := [.ref 0, .int 1, .int (nI kx2), .int x3]) (st' := [.int x3, .int (nI kx2), .ref 67]) rfl ?_
        refine wp_callV (o := 67) (as := [.int (nI kx2), .int x3]) (rest := []) (els := [.ref 67, .int (nI kx2), .int x3]) rfl rfl rfl rfl rfl rfl rfl rfl (by omega) ?_
        refine wp_run 1 (pc' := 1) (ls' := [.ref 67, .int (nI kx2), .int x3]) (st' := [.ref 67]) rfl ?_
        refine wp_getr 68 rfl rfl rfl ?_
        refine wp_run 2 (pc' := 6) (ls' := [.ref 67, .int (nI kx2), .int x3]) (st' := [.ref 67, .int (nI kx2), .ref 68]) rfl ?_
        refine wp_geti (a := 1) 32 (hob.trans eb) rfl rfl rfl ?_
        refine wp_run 1 (pc' := 11) (ls' := [.ref 67, .int (nI kx2), .int x3]) (st' := [.int 8, .int 32, .int (nI kx2), .ref 68]) rfl ?_
        refine wp_icmp_t rfl (show ¬ (32 : Int32) = 8 from by decide) ?_
        refine wp_run 1 (pc' := 20) (ls' := [.ref 67, .int (nI kx2), .int x3]) (st' := [.ref 67, .int (nI kx2), .ref 68]) rfl ?_
        refine wp_geti (a := 1) 32 (hob.trans eb) rfl rfl rfl ?_
        refine wp_run 1 (pc' := 25) (ls' := [.ref 67, .int (nI kx2), .int x3]) (st' := [.int 16, .int 32, .int (nI kx2), .ref 68]) rfl ?_
        refine wp_icmp_t rfl (show ¬ (32 : Int32) = 16 from by decide) ?_
        refine wp_run 1 (pc' := 34) (ls' := [.ref 67, .int (nI kx2), .int x3]) (st' := [.int x3, .int (nI kx2), .ref 68]) rfl ?_
        refine wp_ast rfl rfl rfl (by omega) rfl ?_
        refine wp_retv rfl ?_
        show am_wp L xs _ _ _ _ 67 [.ref 0, .int 1, .int (nI kx2), .int x3] [] (am_S b) (am_u h 68 kx2 x3) _
        refine wp_run 1 (pc' := 68) (ls' := [.ref 0, .int 1, .int (nI kx2), .int x3]) (st' := [.int 1]) rfl ?_
        refine wp_ret rfl ?_
        refine kk _ _ _ (fun ms2 Q2 kk2 => ?_)
        refine wp_run 2 (pc' := 2) (ls' := [.ref 74, .int 1, .int (nI kx2), .int x3, am_du]) (st' := [.int 1, .ref 74]) rfl ?_
        refine wp_callV (o := 74) (as := [.int 1]) (rest := []) (els := [.ref 74, .int 1]) rfl rfl rfl rfl rfl rfl rfl rfl (by omega) ?_
        refine wp_run 1 (pc' := 1) (ls' := [.ref 74, .int 1]) (st' := [.int 1]) rfl ?_
        refine wp_callS (as := [.int 1]) (rest := []) (els := [.int 1]) rfl rfl rfl rfl rfl rfl rfl rfl (by omega) ?_
        refine sp_m_isSheet (by omega) (fun _ _ _ => ?_) (fun q => absurd rfl (q 1 (by omega)))
        show am_wp L xs _ _ _ _ 4 [.ref 74, .int 1] [.int 1] (am_S b) (am_u h 68 kx2 x3) _
        refine wp_if_t rfl (show ¬ (1 : Int32) = 0 from by decide) ?_
        refine wp_run 1 (pc' := 13) (ls' := [.ref 74, .int 1]) (st' := [.ref 74]) rfl ?_
        refine wp_getr 78 rfl rfl rfl ?_
        refine wp_run 1 (pc' := 17) (ls' := [.ref 74, .int 1]) (st' := [.int 1, .ref 78]) rfl ?_
        refine wp_ald (i := 1) 32 eb rfl rfl rfl (by decide) rfl ?_
        refine wp_if_t rfl (show ¬ (32 : Int32) = 0 from by decide) ?_
        refine wp_run 1 (pc' := 27) (ls' := [.ref 74, .int 1]) (st' := [.int 0]) rfl ?_
        refine wp_ret rfl ?_
        show am_wp L xs _ _ _ _ 5 [.ref 74, .int 1, .int (nI kx2), .int x3, am_du] [.int 0] (am_S b) (am_u h 68 kx2 x3) _
        refine wp_run 2 (pc' := 9) (ls' := [.ref 74, .int 1, .int (nI kx2), .int x3, .int 0]) (st' := [.int 0]) rfl ?_
        refine wp_if_f rfl (show ¬ (¬ (0 : Int32) = 0) from by decide) ?_
        refine wp_run 3 (pc' := 15) (ls' := [.ref 74, .int 1, .int (nI kx2), .int x3, .int 0]) (st' := [.ref 74, .int 0, .int (nI kx2)]) rfl ?_
        refine wp_getr 79 rfl rfl rfl ?_
        refine wp_run 1 (pc' := 19) (ls' := [.ref 74, .int 1, .int (nI kx2), .int x3, .int 0]) (st' := [.int 1, .ref 79, .int 0, .int (nI kx2)]) rfl ?_
        refine wp_ald (i := 1) (nI l) hz2 rfl rfl rfl (by decide) rfl ?_
        refine wp_run 2 (pc' := 22) (ls' := [.ref 74, .int 1, .int (nI kx2), .int x3, .int 0]) (st' := [.int ((nI l) - 1), .int 0, .int (nI kx2)]) rfl ?_
        refine wp_callS (as := [.int (nI kx2), .int 0, .int ((nI l) - 1)]) (rest := []) (els := [.int (nI kx2), .int 0, .int ((nI l) - 1)]) rfl rfl rfl rfl rfl rfl rfl rfl (by omega) ?_
        refine sp_m_in1 (m := l) (by omega) rfl (fun _ _ _ => ?_) (fun q => absurd rfl (q kx2 (by omega)))
        show am_wp L xs _ _ _ _ 25 [.ref 74, .int 1, .int (nI kx2), .int x3, .int 0] [.int 1] (am_S b) (am_u h 68 kx2 x3) _
        refine wp_if_t rfl (show ¬ (1 : Int32) = 0 from by decide) ?_
        refine wp_run 3 (pc' := 39) (ls' := [.ref 74, .int 1, .int (nI kx2), .int x3, .int 0]) (st' := [.int 0]) rfl ?_
        refine wp_if_t rfl (show (0 : Int32) = 0 from by decide) ?_
        refine wp_run 1 (pc' := 50) (ls' := [.ref 74, .int 1, .int (nI kx2), .int x3, .int 0]) (st' := [.ref 74]) rfl ?_
        refine wp_getr 80 rfl rfl rfl ?_
        refine wp_run 6 (pc' := 60) (ls' := [.ref 74, .int 1, .int (nI kx2), .int x3, .int 0]) (st' := [.ref 74, .int ((24 * 1) + (nI kx2)), .ref 80]) rfl ?_
        rw [show ((24 * 1) : Int32) = 24 from by decide]
        rw [show ((24 + (nI kx2)) : Int32) = (nI (24 + kx2)) from nI_add 24 kx2]
        refine wp_getr 78 rfl rfl rfl ?_
        refine wp_run 1 (pc' := 64) (ls' := [.ref 74, .int 1, .int (nI kx2), .int x3, .int 0]) (st' := [.int 1, .ref 78, .int (nI (24 + kx2)), .ref 80]) rfl ?_
        refine wp_ald (i := 1) 32 eb rfl rfl rfl (by decide) rfl ?_
        refine wp_run 1 (pc' := 67) (ls' := [.ref 74, .int 1, .int (nI kx2), .int x3, .int 0]) (st' := [.int 8, .int 32, .int (nI (24 + kx2)), .ref 80]) rfl ?_
        refine wp_icmp_t rfl (show ¬ (32 : Int32) = 8 from by decide) ?_
        refine wp_run 1 (pc' := 76) (ls' := [.ref 74, .int 1, .int (nI kx2), .int x3, .int 0]) (st' := [.ref 74, .int (nI (24 + kx2)), .ref 80]) rfl ?_
        refine wp_getr 78 rfl rfl rfl ?_
        refine wp_run 1 (pc' := 80) (ls' := [.ref 74, .int 1, .int (nI kx2), .int x3, .int 0]) (st' := [.int 1, .ref 78, .int (nI (24 + kx2)), .ref 80]) rfl ?_
        refine wp_ald (i := 1) 32 eb rfl rfl rfl (by decide) rfl ?_
        refine wp_run 1 (pc' := 83) (ls' := [.ref 74, .int 1, .int (nI kx2), .int x3, .int 0]) (st' := [.int 16, .int 32, .int (nI (24 + kx2)), .ref 80]) rfl ?_
        refine wp_icmp_t rfl (show ¬ (32 : Int32) = 16 from by decide) ?_
        refine wp_run 1 (pc' := 92) (ls' := [.ref 74, .int 1, .int (nI kx2), .int x3, .int 0]) (st' := [.int x3, .int (nI (24 + kx2)), .ref 80]) rfl ?_
        refine wp_ast rfl rfl rfl (by omega) rfl ?_
        refine wp_run 1 (pc' := 94) (ls' := [.ref 74, .int 1, .int (nI kx2), .int x3, .int 0]) (st' := [.int 1]) rfl ?_
        refine wp_ret rfl ?_
        exact kk2 _ _ ⟨⟨n, c, t, tp, wt, s0, s1, p0, p1, H⟩, re_im_s hI, hE, (re_sh_o hS0 (s2 := 1) (by omega) (i := kx2) (by omega) x3), (re_sh_w hS1 (i := kx2) (by omega) x3), (re_sh_o hS2 (s2 := 1) (by omega) (i := kx2) (by omega) x3), (re_sh_o hS3 (s2 := 1) (by omega) (i := kx2) (by omega) x3), hT⟩
      · skip
        intro hnx2
        show am_wp L xs _ _ _ _ 47 [.ref 0, .int 1, .int x2, .int x3] [.int 0] (am_S b) h _
        refine wp_if_f rfl (show ¬ (¬ (0 : Int32) = 0) from by decide) ?_
        refine wp_run 2 (pc' := 52) (ls' := [.ref 0, .int 1, .int x2, .int x3]) (st' := [.int 1, .ref 0]) rfl ?_
        refine wp_callV (o := 0) (as := [.int 1]) (rest := []) (els := [.ref 0, .int 1]) rfl rfl rfl rfl rfl rfl rfl rfl (by omega) ?_
        refine sp_refuse1 (by omega) ?_
        show am_wp L xs _ _ _ _ 55 [.ref 0, .int 1, .int x2, .int x3] [.int (-1000000001)] (am_S b) (am_u h 73 1 (h 73 1 + 1)) _
        refine wp_ret rfl ?_
        refine kk _ _ _ (fun ms2 Q2 kk2 => ?_)
        refine wp_run 2 (pc' := 2) (ls' := [.ref 74, .int 1, .int x2, .int x3, am_du]) (st' := [.int 1, .ref 74]) rfl ?_
        refine wp_callV (o := 74) (as := [.int 1]) (rest := []) (els := [.ref 74, .int 1]) rfl rfl rfl rfl rfl rfl rfl rfl (by omega) ?_
        refine wp_run 1 (pc' := 1) (ls' := [.ref 74, .int 1]) (st' := [.int 1]) rfl ?_
        refine wp_callS (as := [.int 1]) (rest := []) (els := [.int 1]) rfl rfl rfl rfl rfl rfl rfl rfl (by omega) ?_
        refine sp_m_isSheet (by omega) (fun _ _ _ => ?_) (fun q => absurd rfl (q 1 (by omega)))
        show am_wp L xs _ _ _ _ 4 [.ref 74, .int 1] [.int 1] (am_S b) (am_u h 73 1 (h 73 1 + 1)) _
        refine wp_if_t rfl (show ¬ (1 : Int32) = 0 from by decide) ?_
        refine wp_run 1 (pc' := 13) (ls' := [.ref 74, .int 1]) (st' := [.ref 74]) rfl ?_
        refine wp_getr 78 rfl rfl rfl ?_
        refine wp_run 1 (pc' := 17) (ls' := [.ref 74, .int 1]) (st' := [.int 1, .ref 78]) rfl ?_
        refine wp_ald (i := 1) 32 eb rfl rfl rfl (by decide) rfl ?_
        refine wp_if_t rfl (show ¬ (32 : Int32) = 0 from by decide) ?_
        refine wp_run 1 (pc' := 27) (ls' := [.ref 74, .int 1]) (st' := [.int 0]) rfl ?_
        refine wp_ret rfl ?_
        show am_wp L xs _ _ _ _ 5 [.ref 74, .int 1, .int x2, .int x3, am_du] [.int 0] (am_S b) (am_u h 73 1 (h 73 1 + 1)) _
        refine wp_run 2 (pc' := 9) (ls' := [.ref 74, .int 1, .int x2, .int x3, .int 0]) (st' := [.int 0]) rfl ?_
        refine wp_if_f rfl (show ¬ (¬ (0 : Int32) = 0) from by decide) ?_
        refine wp_run 3 (pc' := 15) (ls' := [.ref 74, .int 1, .int x2, .int x3, .int 0]) (st' := [.ref 74, .int 0, .int x2]) rfl ?_
        refine wp_getr 79 rfl rfl rfl ?_
        refine wp_run 1 (pc' := 19) (ls' := [.ref 74, .int 1, .int x2, .int x3, .int 0]) (st' := [.int 1, .ref 79, .int 0, .int x2]) rfl ?_
        refine wp_ald (i := 1) (nI l) hz2 rfl rfl rfl (by decide) rfl ?_
        refine wp_run 2 (pc' := 22) (ls' := [.ref 74, .int 1, .int x2, .int x3, .int 0]) (st' := [.int ((nI l) - 1), .int 0, .int x2]) rfl ?_
        refine wp_callS (as := [.int x2, .int 0, .int ((nI l) - 1)]) (rest := []) (els := [.int x2, .int 0, .int ((nI l) - 1)]) rfl rfl rfl rfl rfl rfl rfl rfl (by omega) ?_
        refine sp_m_in1 (m := l) (by omega) rfl (fun k hk e => absurd e (hnx2 k hk)) (fun _ => ?_)
        show am_wp L xs _ _ _ _ 25 [.ref 74, .int 1, .int x2, .int x3, .int 0] [.int 0] (am_S b) (am_u h 73 1 (h 73 1 + 1)) _
        refine wp_if_f rfl (show ¬ (¬ (0 : Int32) = 0) from by decide) ?_
        refine wp_run 4 (pc' := 39) (ls' := [.ref 74, .int 1, .int x2, .int x3, .int (-1000000001)]) (st' := [.int (-1000000001)]) rfl ?_
        refine wp_if_f rfl (show ¬ (((-1000000001) : Int32) = 0) from by decide) ?_
        refine wp_run 2 (pc' := 45) (ls' := [.ref 74, .int 1, .int x2, .int x3, .int (-1000000001)]) (st' := [.int (-1000000001), .ref 74]) rfl ?_
        refine wp_callV (o := 74) (as := [.int (-1000000001)]) (rest := []) (els := [.ref 74, .int (-1000000001)]) rfl rfl rfl rfl rfl rfl rfl rfl (by omega) ?_
        refine sp_error1 ?_
        show am_wp L xs _ _ _ _ 48 [.ref 74, .int 1, .int x2, .int x3, .int (-1000000001)] [.int (-1000000001)] (am_S b) (am_u (am_u h 73 1 (h 73 1 + 1)) 77 1 ((am_u h 73 1 (h 73 1 + 1)) 77 1 + 1)) _
        refine wp_ret rfl ?_
        exact kk2 _ _ (re_err1 hR)
  · skip
    intro ex1
    subst ex1
    show am_wp L xs _ _ _ _ 4 [.ref 0, .int 2, .int x2, .int x3] [.int 1] (am_S b) h _
    refine wp_if_t rfl (show ¬ (1 : Int32) = 0 from by decide) ?_
    obtain ⟨l, hl24, ho2, hz2, hob, hbb, hri⟩ := id hS2
    rcases hbb with ⟨eb, el⟩ | eb | eb | eb
    · skip
      refine wp_run 1 (pc' := 14) (ls' := [.ref 0, .int 2, .int x2, .int x3]) (st' := [.ref 0]) rfl ?_
      refine wp_getr 64 rfl rfl rfl ?_
      refine wp_run 1 (pc' := 18) (ls' := [.ref 0, .int 2, .int x2, .int x3]) (st' := [.int 2, .ref 64]) rfl ?_
      refine wp_aald (r := 69) rfl rfl (Or.inr rfl) rfl (by decide) rfl rfl ?_
      refine wp_callV (o := 69) (as := []) (rest := []) (els := [.ref 69]) rfl rfl rfl rfl rfl rfl rfl rfl (by omega) ?_
      refine wp_run 1 (pc' := 1) (ls' := [.ref 69]) (st' := [.ref 69]) rfl ?_
      refine wp_geti (a := 1) 0 (hob.trans eb) rfl rfl rfl ?_
      refine wp_if_f rfl (show ¬ (¬ (0 : Int32) = 0) from by decide) ?_
      refine wp_run 2 (pc' := 12) (ls' := [.ref 69]) (st' := [.int 1]) rfl ?_
      refine wp_retz rfl (Or.inr rfl) ?_
      show am_wp L xs _ _ _ _ 22 [.ref 0, .int 2, .int x2, .int x3] [.int 1] (am_S b) h _
      refine wp_if_f rfl (show ¬ ((1 : Int32) = 0) from by decide) ?_
      refine wp_run 2 (pc' := 27) (ls' := [.ref 0, .int 2, .int x2, .int x3]) (st' := [.int 2, .ref 0]) rfl ?_
      refine wp_callV (o := 0) (as := [.int 2]) (rest := []) (els := [.ref 0, .int 2]) rfl rfl rfl rfl rfl rfl rfl rfl (by omega) ?_
      refine sp_refuse2 (by omega) ?_
      show am_wp L xs _ _ _ _ 30 [.ref 0, .int 2, .int x2, .int x3] [.int (-1000000002)] (am_S b) (am_u h 73 2 (h 73 2 + 1)) _
      refine wp_ret rfl ?_
      refine kk _ _ _ (fun ms2 Q2 kk2 => ?_)
      refine wp_run 2 (pc' := 2) (ls' := [.ref 74, .int 2, .int x2, .int x3, am_du]) (st' := [.int 2, .ref 74]) rfl ?_
      refine wp_callV (o := 74) (as := [.int 2]) (rest := []) (els := [.ref 74, .int 2]) rfl rfl rfl rfl rfl rfl rfl rfl (by omega) ?_
      refine wp_run 1 (pc' := 1) (ls' := [.ref 74, .int 2]) (st' := [.int 2]) rfl ?_
      refine wp_callS (as := [.int 2]) (rest := []) (els := [.int 2]) rfl rfl rfl rfl rfl rfl rfl rfl (by omega) ?_
      refine sp_m_isSheet (by omega) (fun _ _ _ => ?_) (fun q => absurd rfl (q 2 (by omega)))
      show am_wp L xs _ _ _ _ 4 [.ref 74, .int 2] [.int 1] (am_S b) (am_u h 73 2 (h 73 2 + 1)) _
      refine wp_if_t rfl (show ¬ (1 : Int32) = 0 from by decide) ?_
      refine wp_run 1 (pc' := 13) (ls' := [.ref 74, .int 2]) (st' := [.ref 74]) rfl ?_
      refine wp_getr 78 rfl rfl rfl ?_
      refine wp_run 1 (pc' := 17) (ls' := [.ref 74, .int 2]) (st' := [.int 2, .ref 78]) rfl ?_
      refine wp_ald (i := 2) 0 eb rfl rfl rfl (by decide) rfl ?_
      refine wp_if_f rfl (show ¬ (¬ (0 : Int32) = 0) from by decide) ?_
      refine wp_run 2 (pc' := 27) (ls' := [.ref 74, .int 2]) (st' := [.int (-1000000002)]) rfl ?_
      refine wp_ret rfl ?_
      show am_wp L xs _ _ _ _ 5 [.ref 74, .int 2, .int x2, .int x3, am_du] [.int (-1000000002)] (am_S b) (am_u h 73 2 (h 73 2 + 1)) _
      refine wp_run 2 (pc' := 9) (ls' := [.ref 74, .int 2, .int x2, .int x3, .int (-1000000002)]) (st' := [.int (-1000000002)]) rfl ?_
      refine wp_if_t rfl (show ¬ ((-1000000002) : Int32) = 0 from by decide) ?_
      refine wp_run 3 (pc' := 39) (ls' := [.ref 74, .int 2, .int x2, .int x3, .int (-1000000002)]) (st' := [.int (-1000000002)]) rfl ?_
      refine wp_if_f rfl (show ¬ (((-1000000002) : Int32) = 0) from by decide) ?_
      refine wp_run 2 (pc' := 45) (ls' := [.ref 74, .int 2, .int x2, .int x3, .int (-1000000002)]) (st' := [.int (-1000000002), .ref 74]) rfl ?_
      refine wp_callV (o := 74) (as := [.int (-1000000002)]) (rest := []) (els := [.ref 74, .int (-1000000002)]) rfl rfl rfl rfl rfl rfl rfl rfl (by omega) ?_
      refine sp_error2 ?_
      show am_wp L xs _ _ _ _ 48 [.ref 74, .int 2, .int x2, .int x3, .int (-1000000002)] [.int (-1000000002)] (am_S b) (am_u (am_u h 73 2 (h 73 2 + 1)) 77 2 ((am_u h 73 2 (h 73 2 + 1)) 77 2 + 1)) _
      refine wp_ret rfl ?_
      exact kk2 _ _ (re_err2 hR)
    · skip
      refine wp_run 1 (pc' := 14) (ls' := [.ref 0, .int 2, .int x2, .int x3]) (st' := [.ref 0]) rfl ?_
      refine wp_getr 64 rfl rfl rfl ?_
      refine wp_run 1 (pc' := 18) (ls' := [.ref 0, .int 2, .int x2, .int x3]) (st' := [.int 2, .ref 64]) rfl ?_
      refine wp_aald (r := 69) rfl rfl (Or.inr rfl) rfl (by decide) rfl rfl ?_
      refine wp_callV (o := 69) (as := []) (rest := []) (els := [.ref 69]) rfl rfl rfl rfl rfl rfl rfl rfl (by omega) ?_
      refine wp_run 1 (pc' := 1) (ls' := [.ref 69]) (st' := [.ref 69]) rfl ?_
      refine wp_geti (a := 1) 8 (hob.trans eb) rfl rfl rfl ?_
      refine wp_if_t rfl (show ¬ (8 : Int32) = 0 from by decide) ?_
      refine wp_run 1 (pc' := 12) (ls' := [.ref 69]) (st' := [.int 0]) rfl ?_
      refine wp_retz rfl (Or.inl rfl) ?_
      show am_wp L xs _ _ _ _ 22 [.ref 0, .int 2, .int x2, .int x3] [.int 0] (am_S b) h _
      refine wp_if_t rfl (show (0 : Int32) = 0 from by decide) ?_
      refine wp_run 3 (pc' := 34) (ls' := [.ref 0, .int 2, .int x2, .int x3]) (st' := [.ref 0, .int 0, .int x2]) rfl ?_
      refine wp_getr 64 rfl rfl rfl ?_
      refine wp_run 1 (pc' := 38) (ls' := [.ref 0, .int 2, .int x2, .int x3]) (st' := [.int 2, .ref 64, .int 0, .int x2]) rfl ?_
      refine wp_aald (r := 69) rfl rfl (Or.inr rfl) rfl (by decide) rfl rfl ?_
      refine wp_geti (a := 2) (nI l) ho2 rfl rfl rfl ?_
      refine wp_run 2 (pc' := 44) (ls' := [.ref 0, .int 2, .int x2, .int x3]) (st' := [.int ((nI l) - 1), .int 0, .int x2]) rfl ?_
      refine wp_callS (as := [.int x2, .int 0, .int ((nI l) - 1)]) (rest := []) (els := [.int x2, .int 0, .int ((nI l) - 1)]) rfl rfl rfl rfl rfl rfl rfl rfl (by omega) ?_
      refine sp_x_within1 (m := l) (by omega) rfl ?_ ?_
      · skip
        intro kx2 hkx2 ex2
        subst ex2
        show am_wp L xs _ _ _ _ 47 [.ref 0, .int 2, .int (nI kx2), .int x3] [.int 1] (am_S b) h _
        refine wp_if_t rfl (show ¬ (1 : Int32) = 0 from by decide) ?_
        refine wp_run 1 (pc' := 57) (ls' := [.ref 0, .int 2, .int (nI kx2), .int x3]) (st' := [.ref 0]) rfl ?_
        refine wp_getr 64 rfl rfl rfl ?_
        refine wp_run 1 (pc' := 61) (ls' := [.ref 0, .int 2, .int (nI kx2), .int x3]) (st' := [.int 2, .ref 64]) rfl ?_
        refine wp_aald (r := 69) rfl rfl (Or.inr rfl) rfl (by decide) rfl rfl ?_
        refine wp_run 2 (pc' := 64) (ls' := [.ref 0, .int 2, .int (nI kx2), .int x3]) (st' := [.int x3, .int (nI kx2), .ref 69]) rfl ?_
        refine wp_callV (o := 69) (as := [.int (nI kx2), .int x3]) (rest := []) (els := [.ref 69, .int (nI kx2), .int x3]) rfl rfl rfl rfl rfl rfl rfl rfl (by omega) ?_
        refine wp_run 1 (pc' := 1) (ls' := [.ref 69, .int (nI kx2), .int x3]) (st' := [.ref 69]) rfl ?_
        refine wp_getr 70 rfl rfl rfl ?_
        refine wp_run 2 (pc' := 6) (ls' := [.ref 69, .int (nI kx2), .int x3]) (st' := [.ref 69, .int (nI kx2), .ref 70]) rfl ?_
        refine wp_geti (a := 1) 8 (hob.trans eb) rfl rfl rfl ?_
        refine wp_run 1 (pc' := 11) (ls' := [.ref 69, .int (nI kx2), .int x3]) (st' := [.int 8, .int 8, .int (nI kx2), .ref 70]) rfl ?_
        refine wp_icmp_f rfl (show ¬ (¬ (8 : Int32) = 8) from by decide) ?_
        refine wp_run 3 (pc' := 34) (ls' := [.ref 69, .int (nI kx2), .int x3]) (st' := [.int (Int32.toInt8 x3).toInt32, .int (nI kx2), .ref 70]) rfl ?_
        refine wp_ast rfl rfl rfl (by omega) rfl ?_
        refine wp_retv rfl ?_
        show am_wp L xs _ _ _ _ 67 [.ref 0, .int 2, .int (nI kx2), .int x3] [] (am_S b) (am_u h 70 kx2 (Int32.toInt8 x3).toInt32) _
        refine wp_run 1 (pc' := 68) (ls' := [.ref 0, .int 2, .int (nI kx2), .int x3]) (st' := [.int 1]) rfl ?_
        refine wp_ret rfl ?_
        refine kk _ _ _ (fun ms2 Q2 kk2 => ?_)
        refine wp_run 2 (pc' := 2) (ls' := [.ref 74, .int 2, .int (nI kx2), .int x3, am_du]) (st' := [.int 2, .ref 74]) rfl ?_
        refine wp_callV (o := 74) (as := [.int 2]) (rest := []) (els := [.ref 74, .int 2]) rfl rfl rfl rfl rfl rfl rfl rfl (by omega) ?_
        refine wp_run 1 (pc' := 1) (ls' := [.ref 74, .int 2]) (st' := [.int 2]) rfl ?_
        refine wp_callS (as := [.int 2]) (rest := []) (els := [.int 2]) rfl rfl rfl rfl rfl rfl rfl rfl (by omega) ?_
        refine sp_m_isSheet (by omega) (fun _ _ _ => ?_) (fun q => absurd rfl (q 2 (by omega)))
        show am_wp L xs _ _ _ _ 4 [.ref 74, .int 2] [.int 1] (am_S b) (am_u h 70 kx2 (Int32.toInt8 x3).toInt32) _
        refine wp_if_t rfl (show ¬ (1 : Int32) = 0 from by decide) ?_
        refine wp_run 1 (pc' := 13) (ls' := [.ref 74, .int 2]) (st' := [.ref 74]) rfl ?_
        refine wp_getr 78 rfl rfl rfl ?_
        refine wp_run 1 (pc' := 17) (ls' := [.ref 74, .int 2]) (st' := [.int 2, .ref 78]) rfl ?_
        refine wp_ald (i := 2) 8 eb rfl rfl rfl (by decide) rfl ?_
        refine wp_if_t rfl (show ¬ (8 : Int32) = 0 from by decide) ?_
        refine wp_run 1 (pc' := 27) (ls' := [.ref 74, .int 2]) (st' := [.int 0]) rfl ?_
        refine wp_ret rfl ?_
        show am_wp L xs _ _ _ _ 5 [.ref 74, .int 2, .int (nI kx2), .int x3, am_du] [.int 0] (am_S b) (am_u h 70 kx2 (Int32.toInt8 x3).toInt32) _
        refine wp_run 2 (pc' := 9) (ls' := [.ref 74, .int 2, .int (nI kx2), .int x3, .int 0]) (st' := [.int 0]) rfl ?_
        refine wp_if_f rfl (show ¬ (¬ (0 : Int32) = 0) from by decide) ?_
        refine wp_run 3 (pc' := 15) (ls' := [.ref 74, .int 2, .int (nI kx2), .int x3, .int 0]) (st' := [.ref 74, .int 0, .int (nI kx2)]) rfl ?_
        refine wp_getr 79 rfl rfl rfl ?_
        refine wp_run 1 (pc' := 19) (ls' := [.ref 74, .int 2, .int (nI kx2), .int x3, .int 0]) (st' := [.int 2, .ref 79, .int 0, .int (nI kx2)]) rfl ?_
        refine wp_ald (i := 2) (nI l) hz2 rfl rfl rfl (by decide) rfl ?_
        refine wp_run 2 (pc' := 22) (ls' := [.ref 74, .int 2, .int (nI kx2), .int x3, .int 0]) (st' := [.int ((nI l) - 1), .int 0, .int (nI kx2)]) rfl ?_
        refine wp_callS (as := [.int (nI kx2), .int 0, .int ((nI l) - 1)]) (rest := []) (els := [.int (nI kx2), .int 0, .int ((nI l) - 1)]) rfl rfl rfl rfl rfl rfl rfl rfl (by omega) ?_
        refine sp_m_in1 (m := l) (by omega) rfl (fun _ _ _ => ?_) (fun q => absurd rfl (q kx2 (by omega)))
        show am_wp L xs _ _ _ _ 25 [.ref 74, .int 2, .int (nI kx2), .int x3, .int 0] [.int 1] (am_S b) (am_u h 70 kx2 (Int32.toInt8 x3).toInt32) _
        refine wp_if_t rfl (show ¬ (1 : Int32) = 0 from by decide) ?_
        refine wp_run 3 (pc' := 39) (ls' := [.ref 74, .int 2, .int (nI kx2), .int x3, .int 0]) (st' := [.int 0]) rfl ?_
        refine wp_if_t rfl (show (0 : Int32) = 0 from by decide) ?_
        refine wp_run 1 (pc' := 50) (ls' := [.ref 74, .int 2, .int (nI kx2), .int x3, .int 0]) (st' := [.ref 74]) rfl ?_
        refine wp_getr 80 rfl rfl rfl ?_
        refine wp_run 6 (pc' := 60) (ls' := [.ref 74, .int 2, .int (nI kx2), .int x3, .int 0]) (st' := [.ref 74, .int ((24 * 2) + (nI kx2)), .ref 80]) rfl ?_
        rw [show ((24 * 2) : Int32) = 48 from by decide]
        rw [show ((48 + (nI kx2)) : Int32) = (nI (48 + kx2)) from nI_add 48 kx2]
        refine wp_getr 78 rfl rfl rfl ?_
        refine wp_run 1 (pc' := 64) (ls' := [.ref 74, .int 2, .int (nI kx2), .int x3, .int 0]) (st' := [.int 2, .ref 78, .int (nI (48 + kx2)), .ref 80]) rfl ?_
        refine wp_ald (i := 2) 8 eb rfl rfl rfl (by decide) rfl ?_
        refine wp_run 1 (pc' := 67) (ls' := [.ref 74, .int 2, .int (nI kx2), .int x3, .int 0]) (st' := [.int 8, .int 8, .int (nI (48 + kx2)), .ref 80]) rfl ?_
        refine wp_icmp_f rfl (show ¬ (¬ (8 : Int32) = 8) from by decide) ?_
        refine wp_run 3 (pc' := 92) (ls' := [.ref 74, .int 2, .int (nI kx2), .int x3, .int 0]) (st' := [.int (Int32.toInt8 x3).toInt32, .int (nI (48 + kx2)), .ref 80]) rfl ?_
        refine wp_ast rfl rfl rfl (by omega) rfl ?_
        refine wp_run 1 (pc' := 94) (ls' := [.ref 74, .int 2, .int (nI kx2), .int x3, .int 0]) (st' := [.int 1]) rfl ?_
        refine wp_ret rfl ?_
        exact kk2 _ _ ⟨⟨n, c, t, tp, wt, s0, s1, p0, p1, H⟩, re_im_s hI, hE, (re_sh_o hS0 (s2 := 2) (by omega) (i := kx2) (by omega) ((Int32.toInt8 x3).toInt32)), (re_sh_o hS1 (s2 := 2) (by omega) (i := kx2) (by omega) ((Int32.toInt8 x3).toInt32)), (re_sh_w hS2 (i := kx2) (by omega) ((Int32.toInt8 x3).toInt32)), (re_sh_o hS3 (s2 := 2) (by omega) (i := kx2) (by omega) ((Int32.toInt8 x3).toInt32)), hT⟩
      · skip
        intro hnx2
        show am_wp L xs _ _ _ _ 47 [.ref 0, .int 2, .int x2, .int x3] [.int 0] (am_S b) h _
        refine wp_if_f rfl (show ¬ (¬ (0 : Int32) = 0) from by decide) ?_
        refine wp_run 2 (pc' := 52) (ls' := [.ref 0, .int 2, .int x2, .int x3]) (st' := [.int 1, .ref 0]) rfl ?_
        refine wp_callV (o := 0) (as := [.int 1]) (rest := []) (els := [.ref 0, .int 1]) rfl rfl rfl rfl rfl rfl rfl rfl (by omega) ?_
        refine sp_refuse1 (by omega) ?_
        show am_wp L xs _ _ _ _ 55 [.ref 0, .int 2, .int x2, .int x3] [.int (-1000000001)] (am_S b) (am_u h 73 1 (h 73 1 + 1)) _
        refine wp_ret rfl ?_
        refine kk _ _ _ (fun ms2 Q2 kk2 => ?_)
        refine wp_run 2 (pc' := 2) (ls' := [.ref 74, .int 2, .int x2, .int x3, am_du]) (st' := [.int 2, .ref 74]) rfl ?_
        refine wp_callV (o := 74) (as := [.int 2]) (rest := []) (els := [.ref 74, .int 2]) rfl rfl rfl rfl rfl rfl rfl rfl (by omega) ?_
        refine wp_run 1 (pc' := 1) (ls' := [.ref 74, .int 2]) (st' := [.int 2]) rfl ?_
        refine wp_callS (as := [.int 2]) (rest := []) (els := [.int 2]) rfl rfl rfl rfl rfl rfl rfl rfl (by omega) ?_
        refine sp_m_isSheet (by omega) (fun _ _ _ => ?_) (fun q => absurd rfl (q 2 (by omega)))
        show am_wp L xs _ _ _ _ 4 [.ref 74, .int 2] [.int 1] (am_S b) (am_u h 73 1 (h 73 1 + 1)) _
        refine wp_if_t rfl (show ¬ (1 : Int32) = 0 from by decide) ?_
        refine wp_run 1 (pc' := 13) (ls' := [.ref 74, .int 2]) (st' := [.ref 74]) rfl ?_
        refine wp_getr 78 rfl rfl rfl ?_
        refine wp_run 1 (pc' := 17) (ls' := [.ref 74, .int 2]) (st' := [.int 2, .ref 78]) rfl ?_
        refine wp_ald (i := 2) 8 eb rfl rfl rfl (by decide) rfl ?_
        refine wp_if_t rfl (show ¬ (8 : Int32) = 0 from by decide) ?_
        refine wp_run 1 (pc' := 27) (ls' := [.ref 74, .int 2]) (st' := [.int 0]) rfl ?_
        refine wp_ret rfl ?_
        show am_wp L xs _ _ _ _ 5 [.ref 74, .int 2, .int x2, .int x3, am_du] [.int 0] (am_S b) (am_u h 73 1 (h 73 1 + 1)) _
        refine wp_run 2 (pc' := 9) (ls' := [.ref 74, .int 2, .int x2, .int x3, .int 0]) (st' := [.int 0]) rfl ?_
        refine wp_if_f rfl (show ¬ (¬ (0 : Int32) = 0) from by decide) ?_
        refine wp_run 3 (pc' := 15) (ls' := [.ref 74, .int 2, .int x2, .int x3, .int 0]) (st' := [.ref 74, .int 0, .int x2]) rfl ?_
        refine wp_getr 79 rfl rfl rfl ?_
        refine wp_run 1 (pc' := 19) (ls' := [.ref 74, .int 2, .int x2, .int x3, .int 0]) (st' := [.int 2, .ref 79, .int 0, .int x2]) rfl ?_
        refine wp_ald (i := 2) (nI l) hz2 rfl rfl rfl (by decide) rfl ?_
        refine wp_run 2 (pc' := 22) (ls' := [.ref 74, .int 2, .int x2, .int x3, .int 0]) (st' := [.int ((nI l) - 1), .int 0, .int x2]) rfl ?_
        refine wp_callS (as := [.int x2, .int 0, .int ((nI l) - 1)]) (rest := []) (els := [.int x2, .int 0, .int ((nI l) - 1)]) rfl rfl rfl rfl rfl rfl rfl rfl (by omega) ?_
        refine sp_m_in1 (m := l) (by omega) rfl (fun k hk e => absurd e (hnx2 k hk)) (fun _ => ?_)
        show am_wp L xs _ _ _ _ 25 [.ref 74, .int 2, .int x2, .int x3, .int 0] [.int 0] (am_S b) (am_u h 73 1 (h 73 1 + 1)) _
        refine wp_if_f rfl (show ¬ (¬ (0 : Int32) = 0) from by decide) ?_
        refine wp_run 4 (pc' := 39) (ls' := [.ref 74, .int 2, .int x2, .int x3, .int (-1000000001)]) (st' := [.int (-1000000001)]) rfl ?_
        refine wp_if_f rfl (show ¬ (((-1000000001) : Int32) = 0) from by decide) ?_
        refine wp_run 2 (pc' := 45) (ls' := [.ref 74, .int 2, .int x2, .int x3, .int (-1000000001)]) (st' := [.int (-1000000001), .ref 74]) rfl ?_
        refine wp_callV (o := 74) (as := [.int (-1000000001)]) (rest := []) (els := [.ref 74, .int (-1000000001)]) rfl rfl rfl rfl rfl rfl rfl rfl (by omega) ?_
        refine sp_error1 ?_
        show am_wp L xs _ _ _ _ 48 [.ref 74, .int 2, .int x2, .int x3, .int (-1000000001)] [.int (-1000000001)] (am_S b) (am_u (am_u h 73 1 (h 73 1 + 1)) 77 1 ((am_u h 73 1 (h 73 1 + 1)) 77 1 + 1)) _
        refine wp_ret rfl ?_
        exact kk2 _ _ (re_err1 hR)
    · skip
      refine wp_run 1 (pc' := 14) (ls' := [.ref 0, .int 2, .int x2, .int x3]) (st' := [.ref 0]) rfl ?_
      refine wp_getr 64 rfl rfl rfl ?_
      refine wp_run 1 (pc' := 18) (ls' := [.ref 0, .int 2, .int x2, .int x3]) (st' := [.int 2, .ref 64]) rfl ?_
      refine wp_aald (r := 69) rfl rfl (Or.inr rfl) rfl (by decide) rfl rfl ?_
      refine wp_callV (o := 69) (as := []) (rest := []) (els := [.ref 69]) rfl rfl rfl rfl rfl rfl rfl rfl (by omega) ?_
      refine wp_run 1 (pc' := 1) (ls' := [.ref 69]) (st' := [.ref 69]) rfl ?_
      refine wp_geti (a := 1) 16 (hob.trans eb) rfl rfl rfl ?_
      refine wp_if_t rfl (show ¬ (16 : Int32) = 0 from by decide) ?_
      refine wp_run 1 (pc' := 12) (ls' := [.ref 69]) (st' := [.int 0]) rfl ?_
      refine wp_retz rfl (Or.inl rfl) ?_
      show am_wp L xs _ _ _ _ 22 [.ref 0, .int 2, .int x2, .int x3] [.int 0] (am_S b) h _
      refine wp_if_t rfl (show (0 : Int32) = 0 from by decide) ?_
      refine wp_run 3 (pc' := 34) (ls' := [.ref 0, .int 2, .int x2, .int x3]) (st' := [.ref 0, .int 0, .int x2]) rfl ?_
      refine wp_getr 64 rfl rfl rfl ?_
      refine wp_run 1 (pc' := 38) (ls' := [.ref 0, .int 2, .int x2, .int x3]) (st' := [.int 2, .ref 64, .int 0, .int x2]) rfl ?_
      refine wp_aald (r := 69) rfl rfl (Or.inr rfl) rfl (by decide) rfl rfl ?_
      refine wp_geti (a := 2) (nI l) ho2 rfl rfl rfl ?_
      refine wp_run 2 (pc' := 44) (ls' := [.ref 0, .int 2, .int x2, .int x3]) (st' := [.int ((nI l) - 1), .int 0, .int x2]) rfl ?_
      refine wp_callS (as := [.int x2, .int 0, .int ((nI l) - 1)]) (rest := []) (els := [.int x2, .int 0, .int ((nI l) - 1)]) rfl rfl rfl rfl rfl rfl rfl rfl (by omega) ?_
      refine sp_x_within1 (m := l) (by omega) rfl ?_ ?_
      · skip
        intro kx2 hkx2 ex2
        subst ex2
        show am_wp L xs _ _ _ _ 47 [.ref 0, .int 2, .int (nI kx2), .int x3] [.int 1] (am_S b) h _
        refine wp_if_t rfl (show ¬ (1 : Int32) = 0 from by decide) ?_
        refine wp_run 1 (pc' := 57) (ls' := [.ref 0, .int 2, .int (nI kx2), .int x3]) (st' := [.ref 0]) rfl ?_
        refine wp_getr 64 rfl rfl rfl ?_
        refine wp_run 1 (pc' := 61) (ls' := [.ref 0, .int 2, .int (nI kx2), .int x3]) (st' := [.int 2, .ref 64]) rfl ?_
        refine wp_aald (r := 69) rfl rfl (Or.inr rfl) rfl (by decide) rfl rfl ?_
        refine wp_run 2 (pc' := 64) (ls' := [.ref 0, .int 2, .int (nI kx2), .int x3]) (st' := [.int x3, .int (nI kx2), .ref 69]) rfl ?_
        refine wp_callV (o := 69) (as := [.int (nI kx2), .int x3]) (rest := []) (els := [.ref 69, .int (nI kx2), .int x3]) rfl rfl rfl rfl rfl rfl rfl rfl (by omega) ?_
        refine wp_run 1 (pc' := 1) (ls' := [.ref 69, .int (nI kx2), .int x3]) (st' := [.ref 69]) rfl ?_
        refine wp_getr 70 rfl rfl rfl ?_
        refine wp_run 2 (pc' := 6) (ls' := [.ref 69, .int (nI kx2), .int x3]) (st' := [.ref 69, .int (nI kx2), .ref 70]) rfl ?_
        refine wp_geti (a := 1) 16 (hob.trans eb) rfl rfl rfl ?_
        refine wp_run 1 (pc' := 11) (ls' := [.ref 69, .int (nI kx2), .int x3]) (st' := [.int 8, .int 16, .int (nI kx2), .ref 70]) rfl ?_
        refine wp_icmp_t rfl (show ¬ (16 : Int32) = 8 from by decide) ?_
        refine wp_run 1 (pc' := 20) (ls' := [.ref 69, .int (nI kx2), .int x3]) (st' := [.ref 69, .int (nI kx2), .ref 70]) rfl ?_
        refine wp_geti (a := 1) 16 (hob.trans eb) rfl rfl rfl ?_
        refine wp_run 1 (pc' := 25) (ls' := [.ref 69, .int (nI kx2), .int x3]) (st' := [.int 16, .int 16, .int (nI kx2), .ref 70]) rfl ?_
        refine wp_icmp_f rfl (show ¬ (¬ (16 : Int32) = 16) from by decide) ?_
        refine wp_run 3 (pc' := 34) (ls' := [.ref 69, .int (nI kx2), .int x3]) (st' := [.int (Int32.toInt16 x3).toInt32, .int (nI kx2), .ref 70]) rfl ?_
        refine wp_ast rfl rfl rfl (by omega) rfl ?_
        refine wp_retv rfl ?_
        show am_wp L xs _ _ _ _ 67 [.ref 0, .int 2, .int (nI kx2), .int x3] [] (am_S b) (am_u h 70 kx2 (Int32.toInt16 x3).toInt32) _
        refine wp_run 1 (pc' := 68) (ls' := [.ref 0, .int 2, .int (nI kx2), .int x3]) (st' := [.int 1]) rfl ?_
        refine wp_ret rfl ?_
        refine kk _ _ _ (fun ms2 Q2 kk2 => ?_)
        refine wp_run 2 (pc' := 2) (ls' := [.ref 74, .int 2, .int (nI kx2), .int x3, am_du]) (st' := [.int 2, .ref 74]) rfl ?_
        refine wp_callV (o := 74) (as := [.int 2]) (rest := []) (els := [.ref 74, .int 2]) rfl rfl rfl rfl rfl rfl rfl rfl (by omega) ?_
        refine wp_run 1 (pc' := 1) (ls' := [.ref 74, .int 2]) (st' := [.int 2]) rfl ?_
        refine wp_callS (as := [.int 2]) (rest := []) (els := [.int 2]) rfl rfl rfl rfl rfl rfl rfl rfl (by omega) ?_
        refine sp_m_isSheet (by omega) (fun _ _ _ => ?_) (fun q => absurd rfl (q 2 (by omega)))
        show am_wp L xs _ _ _ _ 4 [.ref 74, .int 2] [.int 1] (am_S b) (am_u h 70 kx2 (Int32.toInt16 x3).toInt32) _
        refine wp_if_t rfl (show ¬ (1 : Int32) = 0 from by decide) ?_
        refine wp_run 1 (pc' := 13) (ls' := [.ref 74, .int 2]) (st' := [.ref 74]) rfl ?_
        refine wp_getr 78 rfl rfl rfl ?_
        refine wp_run 1 (pc' := 17) (ls' := [.ref 74, .int 2]) (st' := [.int 2, .ref 78]) rfl ?_
        refine wp_ald (i := 2) 16 eb rfl rfl rfl (by decide) rfl ?_
        refine wp_if_t rfl (show ¬ (16 : Int32) = 0 from by decide) ?_
        refine wp_run 1 (pc' := 27) (ls' := [.ref 74, .int 2]) (st' := [.int 0]) rfl ?_
        refine wp_ret rfl ?_
        show am_wp L xs _ _ _ _ 5 [.ref 74, .int 2, .int (nI kx2), .int x3, am_du] [.int 0] (am_S b) (am_u h 70 kx2 (Int32.toInt16 x3).toInt32) _
        refine wp_run 2 (pc' := 9) (ls' := [.ref 74, .int 2, .int (nI kx2), .int x3, .int 0]) (st' := [.int 0]) rfl ?_
        refine wp_if_f rfl (show ¬ (¬ (0 : Int32) = 0) from by decide) ?_
        refine wp_run 3 (pc' := 15) (ls' := [.ref 74, .int 2, .int (nI kx2), .int x3, .int 0]) (st' := [.ref 74, .int 0, .int (nI kx2)]) rfl ?_
        refine wp_getr 79 rfl rfl rfl ?_
        refine wp_run 1 (pc' := 19) (ls' := [.ref 74, .int 2, .int (nI kx2), .int x3, .int 0]) (st' := [.int 2, .ref 79, .int 0, .int (nI kx2)]) rfl ?_
        refine wp_ald (i := 2) (nI l) hz2 rfl rfl rfl (by decide) rfl ?_
        refine wp_run 2 (pc' := 22) (ls' := [.ref 74, .int 2, .int (nI kx2), .int x3, .int 0]) (st' := [.int ((nI l) - 1), .int 0, .int (nI kx2)]) rfl ?_
        refine wp_callS (as := [.int (nI kx2), .int 0, .int ((nI l) - 1)]) (rest := []) (els := [.int (nI kx2), .int 0, .int ((nI l) - 1)]) rfl rfl rfl rfl rfl rfl rfl rfl (by omega) ?_
        refine sp_m_in1 (m := l) (by omega) rfl (fun _ _ _ => ?_) (fun q => absurd rfl (q kx2 (by omega)))
        show am_wp L xs _ _ _ _ 25 [.ref 74, .int 2, .int (nI kx2), .int x3, .int 0] [.int 1] (am_S b) (am_u h 70 kx2 (Int32.toInt16 x3).toInt32) _
        refine wp_if_t rfl (show ¬ (1 : Int32) = 0 from by decide) ?_
        refine wp_run 3 (pc' := 39) (ls' := [.ref 74, .int 2, .int (nI kx2), .int x3, .int 0]) (st' := [.int 0]) rfl ?_
        refine wp_if_t rfl (show (0 : Int32) = 0 from by decide) ?_
        refine wp_run 1 (pc' := 50) (ls' := [.ref 74, .int 2, .int (nI kx2), .int x3, .int 0]) (st' := [.ref 74]) rfl ?_
        refine wp_getr 80 rfl rfl rfl ?_
        refine wp_run 6 (pc' := 60) (ls' := [.ref 74, .int 2, .int (nI kx2), .int x3, .int 0]) (st' := [.ref 74, .int ((24 * 2) + (nI kx2)), .ref 80]) rfl ?_
        rw [show ((24 * 2) : Int32) = 48 from by decide]
        rw [show ((48 + (nI kx2)) : Int32) = (nI (48 + kx2)) from nI_add 48 kx2]
        refine wp_getr 78 rfl rfl rfl ?_
        refine wp_run 1 (pc' := 64) (ls' := [.ref 74, .int 2, .int (nI kx2), .int x3, .int 0]) (st' := [.int 2, .ref 78, .int (nI (48 + kx2)), .ref 80]) rfl ?_
        refine wp_ald (i := 2) 16 eb rfl rfl rfl (by decide) rfl ?_
        refine wp_run 1 (pc' := 67) (ls' := [.ref 74, .int 2, .int (nI kx2), .int x3, .int 0]) (st' := [.int 8, .int 16, .int (nI (48 + kx2)), .ref 80]) rfl ?_
        refine wp_icmp_t rfl (show ¬ (16 : Int32) = 8 from by decide) ?_
        refine wp_run 1 (pc' := 76) (ls' := [.ref 74, .int 2, .int (nI kx2), .int x3, .int 0]) (st' := [.ref 74, .int (nI (48 + kx2)), .ref 80]) rfl ?_
        refine wp_getr 78 rfl rfl rfl ?_
        refine wp_run 1 (pc' := 80) (ls' := [.ref 74, .int 2, .int (nI kx2), .int x3, .int 0]) (st' := [.int 2, .ref 78, .int (nI (48 + kx2)), .ref 80]) rfl ?_
        refine wp_ald (i := 2) 16 eb rfl rfl rfl (by decide) rfl ?_
        refine wp_run 1 (pc' := 83) (ls' := [.ref 74, .int 2, .int (nI kx2), .int x3, .int 0]) (st' := [.int 16, .int 16, .int (nI (48 + kx2)), .ref 80]) rfl ?_
        refine wp_icmp_f rfl (show ¬ (¬ (16 : Int32) = 16) from by decide) ?_
        refine wp_run 3 (pc' := 92) (ls' := [.ref 74, .int 2, .int (nI kx2), .int x3, .int 0]) (st' := [.int (Int32.toInt16 x3).toInt32, .int (nI (48 + kx2)), .ref 80]) rfl ?_
        refine wp_ast rfl rfl rfl (by omega) rfl ?_
        refine wp_run 1 (pc' := 94) (ls' := [.ref 74, .int 2, .int (nI kx2), .int x3, .int 0]) (st' := [.int 1]) rfl ?_
        refine wp_ret rfl ?_
        exact kk2 _ _ ⟨⟨n, c, t, tp, wt, s0, s1, p0, p1, H⟩, re_im_s hI, hE, (re_sh_o hS0 (s2 := 2) (by omega) (i := kx2) (by omega) ((Int32.toInt16 x3).toInt32)), (re_sh_o hS1 (s2 := 2) (by omega) (i := kx2) (by omega) ((Int32.toInt16 x3).toInt32)), (re_sh_w hS2 (i := kx2) (by omega) ((Int32.toInt16 x3).toInt32)), (re_sh_o hS3 (s2 := 2) (by omega) (i := kx2) (by omega) ((Int32.toInt16 x3).toInt32)), hT⟩
      · skip
        intro hnx2
        show am_wp L xs _ _ _ _ 47 [.ref 0, .int 2, .int x2, .int x3] [.int 0] (am_S b) h _
        refine wp_if_f rfl (show ¬ (¬ (0 : Int32) = 0) from by decide) ?_
        refine wp_run 2 (pc' := 52) (ls' := [.ref 0, .int 2, .int x2, .int x3]) (st' := [.int 1, .ref 0]) rfl ?_
        refine wp_callV (o := 0) (as := [.int 1]) (rest := []) (els := [.ref 0, .int 1]) rfl rfl rfl rfl rfl rfl rfl rfl (by omega) ?_
        refine sp_refuse1 (by omega) ?_
        show am_wp L xs _ _ _ _ 55 [.ref 0, .int 2, .int x2, .int x3] [.int (-1000000001)] (am_S b) (am_u h 73 1 (h 73 1 + 1)) _
        refine wp_ret rfl ?_
        refine kk _ _ _ (fun ms2 Q2 kk2 => ?_)
        refine wp_run 2 (pc' := 2) (ls' := [.ref 74, .int 2, .int x2, .int x3, am_du]) (st' := [.int 2, .ref 74]) rfl ?_
        refine wp_callV (o := 74) (as := [.int 2]) (rest := []) (els := [.ref 74, .int 2]) rfl rfl rfl rfl rfl rfl rfl rfl (by omega) ?_
        refine wp_run 1 (pc' := 1) (ls' := [.ref 74, .int 2]) (st' := [.int 2]) rfl ?_
        refine wp_callS (as := [.int 2]) (rest := []) (els := [.int 2]) rfl rfl rfl rfl rfl rfl rfl rfl (by omega) ?_
        refine sp_m_isSheet (by omega) (fun _ _ _ => ?_) (fun q => absurd rfl (q 2 (by omega)))
        show am_wp L xs _ _ _ _ 4 [.ref 74, .int 2] [.int 1] (am_S b) (am_u h 73 1 (h 73 1 + 1)) _
        refine wp_if_t rfl (show ¬ (1 : Int32) = 0 from by decide) ?_
        refine wp_run 1 (pc' := 13) (ls' := [.ref 74, .int 2]) (st' := [.ref 74]) rfl ?_
        refine wp_getr 78 rfl rfl rfl ?_
        refine wp_run 1 (pc' := 17) (ls' := [.ref 74, .int 2]) (st' := [.int 2, .ref 78]) rfl ?_
        refine wp_ald (i := 2) 16 eb rfl rfl rfl (by decide) rfl ?_
        refine wp_if_t rfl (show ¬ (16 : Int32) = 0 from by decide) ?_
        refine wp_run 1 (pc' := 27) (ls' := [.ref 74, .int 2]) (st' := [.int 0]) rfl ?_
        refine wp_ret rfl ?_
        show am_wp L xs _ _ _ _ 5 [.ref 74, .int 2, .int x2, .int x3, am_du] [.int 0] (am_S b) (am_u h 73 1 (h 73 1 + 1)) _
        refine wp_run 2 (pc' := 9) (ls' := [.ref 74, .int 2, .int x2, .int x3, .int 0]) (st' := [.int 0]) rfl ?_
        refine wp_if_f rfl (show ¬ (¬ (0 : Int32) = 0) from by decide) ?_
        refine wp_run 3 (pc' := 15) (ls' := [.ref 74, .int 2, .int x2, .int x3, .int 0]) (st' := [.ref 74, .int 0, .int x2]) rfl ?_
        refine wp_getr 79 rfl rfl rfl ?_
        refine wp_run 1 (pc' := 19) (ls' := [.ref 74, .int 2, .int x2, .int x3, .int 0]) (st' := [.int 2, .ref 79, .int 0, .int x2]) rfl ?_
        refine wp_ald (i := 2) (nI l) hz2 rfl rfl rfl (by decide) rfl ?_
        refine wp_run 2 (pc' := 22) (ls' := [.ref 74, .int 2, .int x2, .int x3, .int 0]) (st' := [.int ((nI l) - 1), .int 0, .int x2]) rfl ?_
        refine wp_callS (as := [.int x2, .int 0, .int ((nI l) - 1)]) (rest := []) (els := [.int x2, .int 0, .int ((nI l) - 1)]) rfl rfl rfl rfl rfl rfl rfl rfl (by omega) ?_
        refine sp_m_in1 (m := l) (by omega) rfl (fun k hk e => absurd e (hnx2 k hk)) (fun _ => ?_)
        show am_wp L xs _ _ _ _ 25 [.ref 74, .int 2, .int x2, .int x3, .int 0] [.int 0] (am_S b) (am_u h 73 1 (h 73 1 + 1)) _
        refine wp_if_f rfl (show ¬ (¬ (0 : Int32) = 0) from by decide) ?_
        refine wp_run 4 (pc' := 39) (ls' := [.ref 74, .int 2, .int x2, .int x3, .int (-1000000001)]) (st' := [.int (-1000000001)]) rfl ?_
        refine wp_if_f rfl (show ¬ (((-1000000001) : Int32) = 0) from by decide) ?_
        refine wp_run 2 (pc' := 45) (ls' := [.ref 74, .int 2, .int x2, .int x3, .int (-1000000001)]) (st' := [.int (-1000000001), .ref 74]) rfl ?_
        refine wp_callV (o := 74) (as := [.int (-1000000001)]) (rest := []) (els := [.ref 74, .int (-1000000001)]) rfl rfl rfl rfl rfl rfl rfl rfl (by omega) ?_
        refine sp_error1 ?_
        show am_wp L xs _ _ _ _ 48 [.ref 74, .int 2, .int x2, .int x3, .int (-1000000001)] [.int (-1000000001)] (am_S b) (am_u (am_u h 73 1 (h 73 1 + 1)) 77 1 ((am_u h 73 1 (h 73 1 + 1)) 77 1 + 1)) _
        refine wp_ret rfl ?_
        exact kk2 _ _ (re_err1 hR)
    · skip
      refine wp_run 1 (pc' := 14) (ls' := [.ref 0, .int 2, .int x2, .int x3]) (st' := [.ref 0]) rfl ?_
      refine wp_getr 64 rfl rfl rfl ?_
      refine wp_run 1 (pc' := 18) (ls' := [.ref 0, .int 2, .int x2, .int x3]) (st' := [.int 2, .ref 64]) rfl ?_
      refine wp_aald (r := 69) rfl rfl (Or.inr rfl) rfl (by decide) rfl rfl ?_
      refine wp_callV (o := 69) (as := []) (rest := []) (els := [.ref 69]) rfl rfl rfl rfl rfl rfl rfl rfl (by omega) ?_
      refine wp_run 1 (pc' := 1) (ls' := [.ref 69]) (st' := [.ref 69]) rfl ?_
      refine wp_geti (a := 1) 32 (hob.trans eb) rfl rfl rfl ?_
      refine wp_if_t rfl (show ¬ (32 : Int32) = 0 from by decide) ?_
      refine wp_run 1 (pc' := 12) (ls' := [.ref 69]) (st' := [.int 0]) rfl ?_
      refine wp_retz rfl (Or.inl rfl) ?_
      show am_wp L xs _ _ _ _ 22 [.ref 0, .int 2, .int x2, .int x3] [.int 0] (am_S b) h _
      refine wp_if_t rfl (show (0 : Int32) = 0 from by decide) ?_
      refine wp_run 3 (pc' := 34) (ls' := [.ref 0, .int 2, .int x2, .int x3]) (st' := [.ref 0, .int 0, .int x2]) rfl ?_
      refine wp_getr 64 rfl rfl rfl ?_
      refine wp_run 1 (pc' := 38) (ls' := [.ref 0, .int 2, .int x2, .int x3]) (st' := [.int 2, .ref 64, .int 0, .int x2]) rfl ?_
      refine wp_aald (r := 69) rfl rfl (Or.inr rfl) rfl (by decide) rfl rfl ?_
      refine wp_geti (a := 2) (nI l) ho2 rfl rfl rfl ?_
      refine wp_run 2 (pc' := 44) (ls' := [.ref 0, .int 2, .int x2, .int x3]) (st' := [.int ((nI l) - 1), .int 0, .int x2]) rfl ?_
      refine wp_callS (as := [.int x2, .int 0, .int ((nI l) - 1)]) (rest := []) (els := [.int x2, .int 0, .int ((nI l) - 1)]) rfl rfl rfl rfl rfl rfl rfl rfl (by omega) ?_
      refine sp_x_within1 (m := l) (by omega) rfl ?_ ?_
      · skip
        intro kx2 hkx2 ex2
        subst ex2
        show am_wp L xs _ _ _ _ 47 [.ref 0, .int 2, .int (nI kx2), .int x3] [.int 1] (am_S b) h _
        refine wp_if_t rfl (show ¬ (1 : Int32) = 0 from by decide) ?_
        refine wp_run 1 (pc' := 57) (ls' := [.ref 0, .int 2, .int (nI kx2), .int x3]) (st' := [.ref 0]) rfl ?_
        refine wp_getr 64 rfl rfl rfl ?_
        refine wp_run 1 (pc' := 61) (ls' := [.ref 0, .int 2, .int (nI kx2), .int x3]) (st' := [.int 2, .ref 64]) rfl ?_
        refine wp_aald (r := 69) rfl rfl (Or.inr rfl) rfl (by decide) rfl rfl ?_
        refine wp_run 2 (pc' := 64) (ls' := [.ref 0, .int 2, .int (nI kx2), .int x3]) (st' := [.int x3, .int (nI kx2), .ref 69]) rfl ?_
        refine wp_callV (o := 69) (as := [.int (nI kx2), .int x3]) (rest := []) (els := [.ref 69, .int (nI kx2), .int x3]) rfl rfl rfl rfl rfl rfl rfl rfl (by omega) ?_
        refine wp_run 1 (pc' := 1) (ls' := [.ref 69, .int (nI kx2), .int x3]) (st' := [.ref 69]) rfl ?_
        refine wp_getr 70 rfl rfl rfl ?_
        refine wp_run 2 (pc' := 6) (ls' := [.ref 69, .int (nI kx2), .int x3]) (st' := [.ref 69, .int (nI kx2), .ref 70]) rfl ?_
        refine wp_geti (a := 1) 32 (hob.trans eb) rfl rfl rfl ?_
        refine wp_run 1 (pc' := 11) (ls' := [.ref 69, .int (nI kx2), .int x3]) (st' := [.int 8, .int 32, .int (nI kx2), .ref 70]) rfl ?_
        refine wp_icmp_t rfl (show ¬ (32 : Int32) = 8 from by decide) ?_
        refine wp_run 1 (pc' := 20) (ls' := [.ref 69, .int (nI kx2), .int x3]) (st' := [.ref 69, .int (nI kx2), .ref 70]) rfl ?_
        refine wp_geti (a := 1) 32 (hob.trans eb) rfl rfl rfl ?_
        refine wp_run 1 (pc' := 25) (ls' := [.ref 69, .int (nI kx2), .int x3]) (st' := [.int 16, .int 32, .int (nI kx2), .ref 70]) rfl ?_
        refine wp_icmp_t rfl (show ¬ (32 : Int32) = 16 from by decide) ?_
        refine wp_run 1 (pc' := 34) (ls' := [.ref 69, .int (nI kx2), .int x3]) (st' := [.int x3, .int (nI kx2), .ref 70]) rfl ?_
        refine wp_ast rfl rfl rfl (by omega) rfl ?_
        refine wp_retv rfl ?_
        show am_wp L xs _ _ _ _ 67 [.ref 0, .int 2, .int (nI kx2), .int x3] [] (am_S b) (am_u h 70 kx2 x3) _
        refine wp_run 1 (pc' := 68) (ls' := [.ref 0, .int 2, .int (nI kx2), .int x3]) (st' := [.int 1]) rfl ?_
        refine wp_ret rfl ?_
        refine kk _ _ _ (fun ms2 Q2 kk2 => ?_)
        refine wp_run 2 (pc' := 2) (ls' := [.ref 74, .int 2, .int (nI kx2), .int x3, am_du]) (st' := [.int 2, .ref 74]) rfl ?_
        refine wp_callV (o := 74) (as := [.int 2]) (rest := []) (els := [.ref 74, .int 2]) rfl rfl rfl rfl rfl rfl rfl rfl (by omega) ?_
        refine wp_run 1 (pc' := 1) (ls' := [.ref 74, .int 2]) (st' := [.int 2]) rfl ?_
        refine wp_callS (as := [.int 2]) (rest := []) (els := [.int 2]) rfl rfl rfl rfl rfl rfl rfl rfl (by omega) ?_
        refine sp_m_isSheet (by omega) (fun _ _ _ => ?_) (fun q => absurd rfl (q 2 (by omega)))
        show am_wp L xs _ _ _ _ 4 [.ref 74, .int 2] [.int 1] (am_S b) (am_u h 70 kx2 x3) _
        refine wp_if_t rfl (show ¬ (1 : Int32) = 0 from by decide) ?_
        refine wp_run 1 (pc' := 13) (ls' := [.ref 74, .int 2]) (st' := [.ref 74]) rfl ?_
        refine wp_getr 78 rfl rfl rfl ?_
        refine wp_run 1 (pc' := 17) (ls' := [.ref 74, .int 2]) (st' := [.int 2, .ref 78]) rfl ?_
        refine wp_ald (i := 2) 32 eb rfl rfl rfl (by decide) rfl ?_
        refine wp_if_t rfl (show ¬ (32 : Int32) = 0 from by decide) ?_
        refine wp_run 1 (pc' := 27) (ls' := [.ref 74, .int 2]) (st' := [.int 0]) rfl ?_
        refine wp_ret rfl ?_
        show am_wp L xs _ _ _ _ 5 [.ref 74, .int 2, .int (nI kx2), .int x3, am_du] [.int 0] (am_S b) (am_u h 70 kx2 x3) _
        refine wp_run 2 (pc' := 9) (ls' := [.ref 74, .int 2, .int (nI kx2), .int x3, .int 0]) (st' := [.int 0]) rfl ?_
        refine wp_if_f rfl (show ¬ (¬ (0 : Int32) = 0) from by decide) ?_
        refine wp_run 3 (pc' := 15) (ls' := [.ref 74, .int 2, .int (nI kx2), .int x3, .int 0]) (st' := [.ref 74, .int 0, .int (nI kx2)]) rfl ?_
        refine wp_getr 79 rfl rfl rfl ?_
        refine wp_run 1 (pc' := 19) (ls' := [.ref 74, .int 2, .int (nI kx2), .int x3, .int 0]) (st' := [.int 2, .ref 79, .int 0, .int (nI kx2)]) rfl ?_
        refine wp_ald (i := 2) (nI l) hz2 rfl rfl rfl (by decide) rfl ?_
        refine wp_run 2 (pc' := 22) (ls' := [.ref 74, .int 2, .int (nI kx2), .int x3, .int 0]) (st' := [.int ((nI l) - 1), .int 0, .int (nI kx2)]) rfl ?_
        refine wp_callS (as := [.int (nI kx2), .int 0, .int ((nI l) - 1)]) (rest := []) (els := [.int (nI kx2), .int 0, .int ((nI l) - 1)]) rfl rfl rfl rfl rfl rfl rfl rfl (by omega) ?_
        refine sp_m_in1 (m := l) (by omega) rfl (fun _ _ _ => ?_) (fun q => absurd rfl (q kx2 (by omega)))
        show am_wp L xs _ _ _ _ 25 [.ref 74, .int 2, .int (nI kx2), .int x3, .int 0] [.int 1] (am_S b) (am_u h 70 kx2 x3) _
        refine wp_if_t rfl (show ¬ (1 : Int32) = 0 from by decide) ?_
        refine wp_run 3 (pc' := 39) (ls' := [.ref 74, .int 2, .int (nI kx2), .int x3, .int 0]) (st' := [.int 0]) rfl ?_
        refine wp_if_t rfl (show (0 : Int32) = 0 from by decide) ?_
        refine wp_run 1 (pc' := 50) (ls' := [.ref 74, .int 2, .int (nI kx2), .int x3, .int 0]) (st' := [.ref 74]) rfl ?_
        refine wp_getr 80 rfl rfl rfl ?_
        refine wp_run 6 (pc' := 60) (ls' := [.ref 74, .int 2, .int (nI kx2), .int x3, .int 0]) (st' := [.ref 74, .int ((24 * 2) + (nI kx2)), .ref 80]) rfl ?_
        rw [show ((24 * 2) : Int32) = 48 from by decide]
        rw [show ((48 + (nI kx2)) : Int32) = (nI (48 + kx2)) from nI_add 48 kx2]
        refine wp_getr 78 rfl rfl rfl ?_
        refine wp_run 1 (pc' := 64) (ls' := [.ref 74, .int 2, .int (nI kx2), .int x3, .int 0]) (st' := [.int 2, .ref 78, .int (nI (48 + kx2)), .ref 80]) rfl ?_
        refine wp_ald (i := 2) 32 eb rfl rfl rfl (by decide) rfl ?_
        refine wp_run 1 (pc' := 67) (ls' := [.ref 74, .int 2, .int (nI kx2), .int x3, .int 0]) (st' := [.int 8, .int 32, .int (nI (48 + kx2)), .ref 80]) rfl ?_
        refine wp_icmp_t rfl (show ¬ (32 : Int32) = 8 from by decide) ?_
        refine wp_run 1 (pc' := 76) (ls' := [.ref 74, .int 2, .int (nI kx2), .int x3, .int 0]) (st' := [.ref 74, .int (nI (48 + kx2)), .ref 80]) rfl ?_
        refine wp_getr 78 rfl rfl rfl ?_
        refine wp_run 1 (pc' := 80) (ls' := [.ref 74, .int 2, .int (nI kx2), .int x3, .int 0]) (st' := [.int 2, .ref 78, .int (nI (48 + kx2)), .ref 80]) rfl ?_
        refine wp_ald (i := 2) 32 eb rfl rfl rfl (by decide) rfl ?_
        refine wp_run 1 (pc' := 83) (ls' := [.ref 74, .int 2, .int (nI kx2), .int x3, .int 0]) (st' := [.int 16, .int 32, .int (nI (48 + kx2)), .ref 80]) rfl ?_
        refine wp_icmp_t rfl (show ¬ (32 : Int32) = 16 from by decide) ?_
        refine wp_run 1 (pc' := 92) (ls' := [.ref 74, .int 2, .int (nI kx2), .int x3, .int 0]) (st' := [.int x3, .int (nI (48 + kx2)), .ref 80]) rfl ?_
        refine wp_ast rfl rfl rfl (by omega) rfl ?_
        refine wp_run 1 (pc' := 94) (ls' := [.ref 74, .int 2, .int (nI kx2), .int x3, .int 0]) (st' := [.int 1]) rfl ?_
        refine wp_ret rfl ?_
        exact kk2 _ _ ⟨⟨n, c, t, tp, wt, s0, s1, p0, p1, H⟩, re_im_s hI, hE, (re_sh_o hS0 (s2 := 2) (by omega) (i := kx2) (by omega) x3), (re_sh_o hS1 (s2 := 2) (by omega) (i := kx2) (by omega) x3), (re_sh_w hS2 (i := kx2) (by omega) x3), (re_sh_o hS3 (s2 := 2) (by omega) (i := kx2) (by omega) x3), hT⟩
      · skip
        intro hnx2
        show am_wp L xs _ _ _ _ 47 [.ref 0, .int 2, .int x2, .int x3] [.int 0] (am_S b) h _
        refine wp_if_f rfl (show ¬ (¬ (0 : Int32) = 0) from by decide) ?_
        refine wp_run 2 (pc' := 52) (ls' := [.ref 0, .int 2, .int x2, .int x3]) (st' := [.int 1, .ref 0]) rfl ?_
        refine wp_callV (o := 0) (as := [.int 1]) (rest := []) (els := [.ref 0, .int 1]) rfl rfl rfl rfl rfl rfl rfl rfl (by omega) ?_
        refine sp_refuse1 (by omega) ?_
        show am_wp L xs _ _ _ _ 55 [.ref 0, .int 2, .int x2, .int x3] [.int (-1000000001)] (am_S b) (am_u h 73 1 (h 73 1 + 1)) _
        refine wp_ret rfl ?_
        refine kk _ _ _ (fun ms2 Q2 kk2 => ?_)
        refine wp_run 2 (pc' := 2) (ls' := [.ref 74, .int 2, .int x2, .int x3, am_du]) (st' := [.int 2, .ref 74]) rfl ?_
        refine wp_callV (o := 74) (as := [.int 2]) (rest := []) (els := [.ref 74, .int 2]) rfl rfl rfl rfl rfl rfl rfl rfl (by omega) ?_
        refine wp_run 1 (pc' := 1) (ls' := [.ref 74, .int 2]) (st' := [.int 2]) rfl ?_
        refine wp_callS (as := [.int 2]) (rest := []) (els := [.int 2]) rfl rfl rfl rfl rfl rfl rfl rfl (by omega) ?_
        refine sp_m_isSheet (by omega) (fun _ _ _ => ?_) (fun q => absurd rfl (q 2 (by omega)))
        show am_wp L xs _ _ _ _ 4 [.ref 74, .int 2] [.int 1] (am_S b) (am_u h 73 1 (h 73 1 + 1)) _
        refine wp_if_t rfl (show ¬ (1 : Int32) = 0 from by decide) ?_
        refine wp_run 1 (pc' := 13) (ls' := [.ref 74, .int 2]) (st' := [.ref 74]) rfl ?_
        refine wp_getr 78 rfl rfl rfl ?_
        refine wp_run 1 (pc' := 17) (ls' := [.ref 74, .int 2]) (st' := [.int 2, .ref 78]) rfl ?_
        refine wp_ald (i := 2) 32 eb rfl rfl rfl (by decide) rfl ?_
        refine wp_if_t rfl (show ¬ (32 : Int32) = 0 from by decide) ?_
        refine wp_run 1 (pc' := 27) (ls' := [.ref 74, .int 2]) (st' := [.int 0]) rfl ?_
        refine wp_ret rfl ?_
        show am_wp L xs _ _ _ _ 5 [.ref 74, .int 2, .int x2, .int x3, am_du] [.int 0] (am_S b) (am_u h 73 1 (h 73 1 + 1)) _
        refine wp_run 2 (pc' := 9) (ls' := [.ref 74, .int 2, .int x2, .int x3, .int 0]) (st' := [.int 0]) rfl ?_
        refine wp_if_f rfl (show ¬ (¬ (0 : Int32) = 0) from by decide) ?_
        refine wp_run 3 (pc' := 15) (ls' := [.ref 74, .int 2, .int x2, .int x3, .int 0]) (st' := [.ref 74, .int 0, .int x2]) rfl ?_
        refine wp_getr 79 rfl rfl rfl ?_
        refine wp_run 1 (pc' := 19) (ls' := [.ref 74, .int 2, .int x2, .int x3, .int 0]) (st' := [.int 2, .ref 79, .int 0, .int x2]) rfl ?_
        refine wp_ald (i := 2) (nI l) hz2 rfl rfl rfl (by decide) rfl ?_
        refine wp_run 2 (pc' := 22) (ls' := [.ref 74, .int 2, .int x2, .int x3, .int 0]) (st' := [.int ((nI l) - 1), .int 0, .int x2]) rfl ?_
        refine wp_callS (as := [.int x2, .int 0, .int ((nI l) - 1)]) (rest := []) (els := [.int x2, .int 0, .int ((nI l) - 1)]) rfl rfl rfl rfl rfl rfl rfl rfl (by omega) ?_
        refine sp_m_in1 (m := l) (by omega) rfl (fun k hk e => absurd e (hnx2 k hk)) (fun _ => ?_)
        show am_wp L xs _ _ _ _ 25 [.ref 74, .int 2, .int x2, .int x3, .int 0] [.int 0] (am_S b) (am_u h 73 1 (h 73 1 + 1)) _
        refine wp_if_f rfl (show ¬ (¬ (0 : Int32) = 0) from by decide) ?_
        refine wp_run 4 (pc' := 39) (ls' := [.ref 74, .int 2, .int x2, .int x3, .int (-1000000001)]) (st' := [.int (-1000000001)]) rfl ?_
        refine wp_if_f rfl (show ¬ (((-1000000001) : Int32) = 0) from by decide) ?_
        refine wp_run 2 (pc' := 45) (ls' := [.ref 74, .int 2, .int x2, .int x3, .int (-1000000001)]) (st' := [.int (-1000000001), .ref 74]) rfl ?_
        refine wp_callV (o := 74) (as := [.int (-1000000001)]) (rest := []) (els := [.ref 74, .int (-1000000001)]) rfl rfl rfl rfl rfl rfl rfl rfl (by omega) ?_
        refine sp_error1 ?_
        show am_wp L xs _ _ _ _ 48 [.ref 74, .int 2, .int x2, .int x3, .int (-1000000001)] [.int (-1000000001)] (am_S b) (am_u (am_u h 73 1 (h 73 1 + 1)) 77 1 ((am_u h 73 1 (h 73 1 + 1)) 77 1 + 1)) _
        refine wp_ret rfl ?_
        exact kk2 _ _ (re_err1 hR)
  · skip
    intro ex1
    subst ex1
    show am_wp L xs _ _ _ _ 4 [.ref 0, .int 3, .int x2, .int x3] [.int 1] (am_S b) h _
    refine wp_if_t rfl (show ¬ (1 : Int32) = 0 from by decide) ?_
    obtain ⟨l, hl24, ho2, hz2, hob, hbb, hri⟩ := id hS3
    rcases hbb with ⟨eb, el⟩ | eb | eb | eb
    · skip
      refine wp_run 1 (pc' := 14) (ls' := [.ref 0, .int 3, .int x2, .int x3]) (st' := [.ref 0]) rfl ?_
      refine wp_getr 64 rfl rfl rfl ?_
      refine wp_run 1 (pc' := 18) (ls' := [.ref 0, .int 3, .int x2, .int x3]) (st' := [.int 3, .ref 64]) rfl ?_
      refine wp_aald (r := 71) rfl rfl (Or.inr rfl) rfl (by decide) rfl rfl ?_
      refine wp_callV (o := 71) (as := []) (rest := []) (els := [.ref 71]) rfl rfl rfl rfl rfl rfl rfl rfl (by omega) ?_
      refine wp_run 1 (pc' := 1) (ls' := [.ref 71]) (st' := [.ref 71]) rfl ?_
      refine wp_geti (a := 1) 0 (hob.trans eb) rfl rfl rfl ?_
      refine wp_if_f rfl (show ¬ (¬ (0 : Int32) = 0) from by decide) ?_
      refine wp_run 2 (pc' := 12) (ls' := [.ref 71]) (st' := [.int 1]) rfl ?_
      refine wp_retz rfl (Or.inr rfl) ?_
      show am_wp L xs _ _ _ _ 22 [.ref 0, .int 3, .int x2, .int x3] [.int 1] (am_S b) h _
      refine wp_if_f rfl (show ¬ ((1 : Int32) = 0) from by decide) ?_
      refine wp_run 2 (pc' := 27) (ls' := [.ref 0, .int 3, .int x2, .int x3]) (st' := [.int 2, .ref 0]) rfl ?_
      refine wp_callV (o := 0) (as := [.int 2]) (rest := []) (els := [.ref 0, .int 2]) rfl rfl rfl rfl rfl rfl rfl rfl (by omega) ?_
      refine sp_refuse2 (by omega) ?_
      show am_wp L xs _ _ _ _ 30 [.ref 0, .int 3, .int x2, .int x3] [.int (-1000000002)] (am_S b) (am_u h 73 2 (h 73 2 + 1)) _
      refine wp_ret rfl ?_
      refine kk _ _ _ (fun ms2 Q2 kk2 => ?_)
      refine wp_run 2 (pc' := 2) (ls' := [.ref 74, .int 3, .int x2, .int x3, am_du]) (st' := [.int 3, .ref 74]) rfl ?_
      refine wp_callV (o := 74) (as := [.int 3]) (rest := []) (els := [.ref 74, .int 3]) rfl rfl rfl rfl rfl rfl rfl rfl (by omega) ?_
      refine wp_run 1 (pc' := 1) (ls' := [.ref 74, .int 3]) (st' := [.int 3]) rfl ?_
      refine wp_callS (as := [.int 3]) (rest := []) (els := [.int 3]) rfl rfl rfl rfl rfl rfl rfl rfl (by omega) ?_
      refine sp_m_isSheet (by omega) (fun _ _ _ => ?_) (fun q => absurd rfl (q 3 (by omega)))
      show am_wp L xs _ _ _ _ 4 [.ref 74, .int 3] [.int 1] (am_S b) (am_u h 73 2 (h 73 2 + 1)) _
      refine wp_if_t rfl (show ¬ (1 : Int32) = 0 from by decide) ?_
      refine wp_run 1 (pc' := 13) (ls' := [.ref 74, .int 3]) (st' := [.ref 74]) rfl ?_
      refine wp_getr 78 rfl rfl rfl ?_
      refine wp_run 1 (pc' := 17) (ls' := [.ref 74, .int 3]) (st' := [.int 3, .ref 78]) rfl ?_
      refine wp_ald (i := 3) 0 eb rfl rfl rfl (by decide) rfl ?_
      refine wp_if_f rfl (show ¬ (¬ (0 : Int32) = 0) from by decide) ?_
      refine wp_run 2 (pc' := 27) (ls' := [.ref 74, .int 3]) (st' := [.int (-1000000002)]) rfl ?_
      refine wp_ret rfl ?_
      show am_wp L xs _ _ _ _ 5 [.ref 74, .int 3, .int x2, .int x3, am_du] [.int (-1000000002)] (am_S b) (am_u h 73 2 (h 73 2 + 1)) _
      refine wp_run 2 (pc' := 9) (ls' := [.ref 74, .int 3, .int x2, .int x3, .int (-1000000002)]) (st' := [.int (-1000000002)]) rfl ?_
      refine wp_if_t rfl (show ¬ ((-1000000002) : Int32) = 0 from by decide) ?_
      refine wp_run 3 (pc' := 39) (ls' := [.ref 74, .int 3, .int x2, .int x3, .int (-1000000002)]) (st' := [.int (-1000000002)]) rfl ?_
      refine wp_if_f rfl (show ¬ (((-1000000002) : Int32) = 0) from by decide) ?_
      refine wp_run 2 (pc' := 45) (ls' := [.ref 74, .int 3, .int x2, .int x3, .int (-1000000002)]) (st' := [.int (-1000000002), .ref 74]) rfl ?_
      refine wp_callV (o := 74) (as := [.int (-1000000002)]) (rest := []) (els := [.ref 74, .int (-1000000002)]) rfl rfl rfl rfl rfl rfl rfl rfl (by omega) ?_
      refine sp_error2 ?_
      show am_wp L xs _ _ _ _ 48 [.ref 74, .int 3, .int x2, .int x3, .int (-1000000002)] [.int (-1000000002)] (am_S b) (am_u (am_u h 73 2 (h 73 2 + 1)) 77 2 ((am_u h 73 2 (h 73 2 + 1)) 77 2 + 1)) _
      refine wp_ret rfl ?_
      exact kk2 _ _ (re_err2 hR)
    · skip
      refine wp_run 1 (pc' := 14) (ls' := [.ref 0, .int 3, .int x2, .int x3]) (st' := [.ref 0]) rfl ?_
      refine wp_getr 64 rfl rfl rfl ?_
      refine wp_run 1 (pc' := 18) (ls' := [.ref 0, .int 3, .int x2, .int x3]) (st' := [.int 3, .ref 64]) rfl ?_
      refine wp_aald (r := 71) rfl rfl (Or.inr rfl) rfl (by decide) rfl rfl ?_
      refine wp_callV (o := 71) (as := []) (rest := []) (els := [.ref 71]) rfl rfl rfl rfl rfl rfl rfl rfl (by omega) ?_
      refine wp_run 1 (pc' := 1) (ls' := [.ref 71]) (st' := [.ref 71]) rfl ?_
      refine wp_geti (a := 1) 8 (hob.trans eb) rfl rfl rfl ?_
      refine wp_if_t rfl (show ¬ (8 : Int32) = 0 from by decide) ?_
      refine wp_run 1 (pc' := 12) (ls' := [.ref 71]) (st' := [.int 0]) rfl ?_
      refine wp_retz rfl (Or.inl rfl) ?_
      show am_wp L xs _ _ _ _ 22 [.ref 0, .int 3, .int x2, .int x3] [.int 0] (am_S b) h _
      refine wp_if_t rfl (show (0 : Int32) = 0 from by decide) ?_
      refine wp_run 3 (pc' := 34) (ls' := [.ref 0, .int 3, .int x2, .int x3]) (st' := [.ref 0, .int 0, .int x2]) rfl ?_
      refine wp_getr 64 rfl rfl rfl ?_
      refine wp_run 1 (pc' := 38) (ls' := [.ref 0, .int 3, .int x2, .int x3]) (st' := [.int 3, .ref 64, .int 0, .int x2]) rfl ?_
      refine wp_aald (r := 71) rfl rfl (Or.inr rfl) rfl (by decide) rfl rfl ?_
      refine wp_geti (a := 2) (nI l) ho2 rfl rfl rfl ?_
      refine wp_run 2 (pc' := 44) (ls' := [.ref 0, .int 3, .int x2, .int x3]) (st' := [.int ((nI l) - 1), .int 0, .int x2]) rfl ?_
      refine wp_callS (as := [.int x2, .int 0, .int ((nI l) - 1)]) (rest := []) (els := [.int x2, .int 0, .int ((nI l) - 1)]) rfl rfl rfl rfl rfl rfl rfl rfl (by omega) ?_
      refine sp_x_within1 (m := l) (by omega) rfl ?_ ?_
      · skip
        intro kx2 hkx2 ex2
        subst ex2
        show am_wp L xs _ _ _ _ 47 [.ref 0, .int 3, .int (nI kx2), .int x3] [.int 1] (am_S b) h _
        refine wp_if_t rfl (show ¬ (1 : Int32) = 0 from by decide) ?_
        refine wp_run 1 (pc' := 57) (ls' := [.ref 0, .int 3, .int (nI kx2), .int x3]) (st' := [.ref 0]) rfl ?_
        refine wp_getr 64 rfl rfl rfl ?_
        refine wp_run 1 (pc' := 61) (ls' := [.ref 0, .int 3, .int (nI kx2), .int x3]) (st' := [.int 3, .ref 64]) rfl ?_
        refine wp_aald (r := 71) rfl rfl (Or.inr rfl) rfl (by decide) rfl rfl ?_
        refine wp_run 2 (pc' := 64) (ls' := [.ref 0, .int 3, .int (nI kx2), .int x3]) (st' := [.int x3, .int (nI kx2), .ref 71]) rfl ?_
        refine wp_callV (o := 71) (as := [.int (nI kx2), .int x3]) (rest := []) (els := [.ref 71, .int (nI kx2), .int x3]) rfl rfl rfl rfl rfl rfl rfl rfl (by omega) ?_
        refine wp_run 1 (pc' := 1) (ls' := [.ref 71, .int (nI kx2), .int x3]) (st' := [.ref 71]) rfl ?_
        refine wp_getr 72 rfl rfl rfl ?_
        refine wp_run 2 (pc' := 6) (ls' := [.ref 71, .int (nI kx2), .int x3]) (st' := [.ref 71, .int (nI kx2), .ref 72]) rfl ?_
        refine wp_geti (a := 1) 8 (hob.trans eb) rfl rfl rfl ?_
        refine wp_run 1 (pc' := 11) (ls' := [.ref 71, .int (nI kx2), .int x3]) (st' := [.int 8, .int 8, .int (nI kx2), .ref 72]) rfl ?_
        refine wp_icmp_f rfl (show ¬ (¬ (8 : Int32) = 8) from by decide) ?_
        refine wp_run 3 (pc' := 34) (ls' := [.ref 71, .int (nI kx2), .int x3]) (st' := [.int (Int32.toInt8 x3).toInt32, .int (nI kx2), .ref 72]) rfl ?_
        refine wp_ast rfl rfl rfl (by omega) rfl ?_
        refine wp_retv rfl ?_
        show am_wp L xs _ _ _ _ 67 [.ref 0, .int 3, .int (nI kx2), .int x3] [] (am_S b) (am_u h 72 kx2 (Int32.toInt8 x3).toInt32) _
        refine wp_run 1 (pc' := 68) (ls' := [.ref 0, .int 3, .int (nI kx2), .int x3]) (st' := [.int 1]) rfl ?_
        refine wp_ret rfl ?_
        refine kk _ _ _ (fun ms2 Q2 kk2 => ?_)
        refine wp_run 2 (pc' := 2) (ls' := [.ref 74, .int 3, .int (nI kx2), .int x3, am_du]) (st' := [.int 3, .ref 74]) rfl ?_
        refine wp_callV (o := 74) (as := [.int 3]) (rest := []) (els := [.ref 74, .int 3]) rfl rfl rfl rfl rfl rfl rfl rfl (by omega) ?_
        refine wp_run 1 (pc' := 1) (ls' := [.ref 74, .int 3]) (st' := [.int 3]) rfl ?_
        refine wp_callS (as := [.int 3]) (rest := []) (els := [.int 3]) rfl rfl rfl rfl rfl rfl rfl rfl (by omega) ?_
        refine sp_m_isSheet (by omega) (fun _ _ _ => ?_) (fun q => absurd rfl (q 3 (by omega)))
        show am_wp L xs _ _ _ _ 4 [.ref 74, .int 3] [.int 1] (am_S b) (am_u h 72 kx2 (Int32.toInt8 x3).toInt32) _
        refine wp_if_t rfl (show ¬ (1 : Int32) = 0 from by decide) ?_
        refine wp_run 1 (pc' := 13) (ls' := [.ref 74, .int 3]) (st' := [.ref 74]) rfl ?_
        refine wp_getr 78 rfl rfl rfl ?_
        refine wp_run 1 (pc' := 17) (ls' := [.ref 74, .int 3]) (st' := [.int 3, .ref 78]) rfl ?_
        refine wp_ald (i := 3) 8 eb rfl rfl rfl (by decide) rfl ?_
        refine wp_if_t rfl (show ¬ (8 : Int32) = 0 from by decide) ?_
        refine wp_run 1 (pc' := 27) (ls' := [.ref 74, .int 3]) (st' := [.int 0]) rfl ?_
        refine wp_ret rfl ?_
        show am_wp L xs _ _ _ _ 5 [.ref 74, .int 3, .int (nI kx2), .int x3, am_du] [.int 0] (am_S b) (am_u h 72 kx2 (Int32.toInt8 x3).toInt32) _
        refine wp_run 2 (pc' := 9) (ls' := [.ref 74, .int 3, .int (nI kx2), .int x3, .int 0]) (st' := [.int 0]) rfl ?_
        refine wp_if_f rfl (show ¬ (¬ (0 : Int32) = 0) from by decide) ?_
        refine wp_run 3 (pc' := 15) (ls' := [.ref 74, .int 3, .int (nI kx2), .int x3, .int 0]) (st' := [.ref 74, .int 0, .int (nI kx2)]) rfl ?_
        refine wp_getr 79 rfl rfl rfl ?_
        refine wp_run 1 (pc' := 19) (ls' := [.ref 74, .int 3, .int (nI kx2), .int x3, .int 0]) (st' := [.int 3, .ref 79, .int 0, .int (nI kx2)]) rfl ?_
        refine wp_ald (i := 3) (nI l) hz2 rfl rfl rfl (by decide) rfl ?_
        refine wp_run 2 (pc' := 22) (ls' := [.ref 74, .int 3, .int (nI kx2), .int x3, .int 0]) (st' := [.int ((nI l) - 1), .int 0, .int (nI kx2)]) rfl ?_
        refine wp_callS (as := [.int (nI kx2), .int 0, .int ((nI l) - 1)]) (rest := []) (els := [.int (nI kx2), .int 0, .int ((nI l) - 1)]) rfl rfl rfl rfl rfl rfl rfl rfl (by omega) ?_
        refine sp_m_in1 (m := l) (by omega) rfl (fun _ _ _ => ?_) (fun q => absurd rfl (q kx2 (by omega)))
        show am_wp L xs _ _ _ _ 25 [.ref 74, .int 3, .int (nI kx2), .int x3, .int 0] [.int 1] (am_S b) (am_u h 72 kx2 (Int32.toInt8 x3).toInt32) _
        refine wp_if_t rfl (show ¬ (1 : Int32) = 0 from by decide) ?_
        refine wp_run 3 (pc' := 39) (ls' := [.ref 74, .int 3, .int (nI kx2), .int x3, .int 0]) (st' := [.int 0]) rfl ?_
        refine wp_if_t rfl (show (0 : Int32) = 0 from by decide) ?_
        refine wp_run 1 (pc' := 50) (ls' := [.ref 74, .int 3, .int (nI kx2), .int x3, .int 0]) (st' := [.ref 74]) rfl ?_
        refine wp_getr 80 rfl rfl rfl ?_
        refine wp_run 6 (pc' := 60) (ls' := [.ref 74, .int 3, .int (nI kx2), .int x3, .int 0]) (st' := [.ref 74, .int ((24 * 3) + (nI kx2)), .ref 80]) rfl ?_
        rw [show ((24 * 3) : Int32) = 72 from by decide]
        rw [show ((72 + (nI kx2)) : Int32) = (nI (72 + kx2)) from nI_add 72 kx2]
        refine wp_getr 78 rfl rfl rfl ?_
        refine wp_run 1 (pc' := 64) (ls' := [.ref 74, .int 3, .int (nI kx2), .int x3, .int 0]) (st' := [.int 3, .ref 78, .int (nI (72 + kx2)), .ref 80]) rfl ?_
        refine wp_ald (i := 3) 8 eb rfl rfl rfl (by decide) rfl ?_
        refine wp_run 1 (pc' := 67) (ls' := [.ref 74, .int 3, .int (nI kx2), .int x3, .int 0]) (st' := [.int 8, .int 8, .int (nI (72 + kx2)), .ref 80]) rfl ?_
        refine wp_icmp_f rfl (show ¬ (¬ (8 : Int32) = 8) from by decide) ?_
        refine wp_run 3 (pc' := 92) (ls' := [.ref 74, .int 3, .int (nI kx2), .int x3, .int 0]) (st' := [.int (Int32.toInt8 x3).toInt32, .int (nI (72 + kx2)), .ref 80]) rfl ?_
        refine wp_ast rfl rfl rfl (by omega) rfl ?_
        refine wp_run 1 (pc' := 94) (ls' := [.ref 74, .int 3, .int (nI kx2), .int x3, .int 0]) (st' := [.int 1]) rfl ?_
        refine wp_ret rfl ?_
        exact kk2 _ _ ⟨⟨n, c, t, tp, wt, s0, s1, p0, p1, H⟩, re_im_s hI, hE, (re_sh_o hS0 (s2 := 3) (by omega) (i := kx2) (by omega) ((Int32.toInt8 x3).toInt32)), (re_sh_o hS1 (s2 := 3) (by omega) (i := kx2) (by omega) ((Int32.toInt8 x3).toInt32)), (re_sh_o hS2 (s2 := 3) (by omega) (i := kx2) (by omega) ((Int32.toInt8 x3).toInt32)), (re_sh_w hS3 (i := kx2) (by omega) ((Int32.toInt8 x3).toInt32)), hT⟩
      · skip
        intro hnx2
        show am_wp L xs _ _ _ _ 47 [.ref 0, .int 3, .int x2, .int x3] [.int 0] (am_S b) h _
        refine wp_if_f rfl (show ¬ (¬ (0 : Int32) = 0) from by decide) ?_
        refine wp_run 2 (pc' := 52) (ls' := [.ref 0, .int 3, .int x2, .int x3]) (st' := [.int 1, .ref 0]) rfl ?_
        refine wp_callV (o := 0) (as := [.int 1]) (rest := []) (els := [.ref 0, .int 1]) rfl rfl rfl rfl rfl rfl rfl rfl (by omega) ?_
        refine sp_refuse1 (by omega) ?_
        show am_wp L xs _ _ _ _ 55 [.ref 0, .int 3, .int x2, .int x3] [.int (-1000000001)] (am_S b) (am_u h 73 1 (h 73 1 + 1)) _
        refine wp_ret rfl ?_
        refine kk _ _ _ (fun ms2 Q2 kk2 => ?_)
        refine wp_run 2 (pc' := 2) (ls' := [.ref 74, .int 3, .int x2, .int x3, am_du]) (st' := [.int 3, .ref 74]) rfl ?_
        refine wp_callV (o := 74) (as := [.int 3]) (rest := []) (els := [.ref 74, .int 3]) rfl rfl rfl rfl rfl rfl rfl rfl (by omega) ?_
        refine wp_run 1 (pc' := 1) (ls' := [.ref 74, .int 3]) (st' := [.int 3]) rfl ?_
        refine wp_callS (as := [.int 3]) (rest := []) (els := [.int 3]) rfl rfl rfl rfl rfl rfl rfl rfl (by omega) ?_
        refine sp_m_isSheet (by omega) (fun _ _ _ => ?_) (fun q => absurd rfl (q 3 (by omega)))
        show am_wp L xs _ _ _ _ 4 [.ref 74, .int 3] [.int 1] (am_S b) (am_u h 73 1 (h 73 1 + 1)) _
        refine wp_if_t rfl (show ¬ (1 : Int32) = 0 from by decide) ?_
        refine wp_run 1 (pc' := 13) (ls' := [.ref 74, .int 3]) (st' := [.ref 74]) rfl ?_
        refine wp_getr 78 rfl rfl rfl ?_
        refine wp_run 1 (pc' := 17) (ls' := [.ref 74, .int 3]) (st' := [.int 3, .ref 78]) rfl ?_
        refine wp_ald (i := 3) 8 eb rfl rfl rfl (by decide) rfl ?_
        refine wp_if_t rfl (show ¬ (8 : Int32) = 0 from by decide) ?_
        refine wp_run 1 (pc' := 27) (ls' := [.ref 74, .int 3]) (st' := [.int 0]) rfl ?_
        refine wp_ret rfl ?_
        show am_wp L xs _ _ _ _ 5 [.ref 74, .int 3, .int x2, .int x3, am_du] [.int 0] (am_S b) (am_u h 73 1 (h 73 1 + 1)) _
        refine wp_run 2 (pc' := 9) (ls' := [.ref 74, .int 3, .int x2, .int x3, .int 0]) (st' := [.int 0]) rfl ?_
        refine wp_if_f rfl (show ¬ (¬ (0 : Int32) = 0) from by decide) ?_
        refine wp_run 3 (pc' := 15) (ls' := [.ref 74, .int 3, .int x2, .int x3, .int 0]) (st' := [.ref 74, .int 0, .int x2]) rfl ?_
        refine wp_getr 79 rfl rfl rfl ?_
        refine wp_run 1 (pc' := 19) (ls' := [.ref 74, .int 3, .int x2, .int x3, .int 0]) (st' := [.int 3, .ref 79, .int 0, .int x2]) rfl ?_
        refine wp_ald (i := 3) (nI l) hz2 rfl rfl rfl (by decide) rfl ?_
        refine wp_run 2 (pc' := 22) (ls' := [.ref 74, .int 3, .int x2, .int x3, .int 0]) (st' := [.int ((nI l) - 1), .int 0, .int x2]) rfl ?_
        refine wp_callS (as := [.int x2, .int 0, .int ((nI l) - 1)]) (rest := []) (els := [.int x2, .int 0, .int ((nI l) - 1)]) rfl rfl rfl rfl rfl rfl rfl rfl (by omega) ?_
        refine sp_m_in1 (m := l) (by omega) rfl (fun k hk e => absurd e (hnx2 k hk)) (fun _ => ?_)
        show am_wp L xs _ _ _ _ 25 [.ref 74, .int 3, .int x2, .int x3, .int 0] [.int 0] (am_S b) (am_u h 73 1 (h 73 1 + 1)) _
        refine wp_if_f rfl (show ¬ (¬ (0 : Int32) = 0) from by decide) ?_
        refine wp_run 4 (pc' := 39) (ls' := [.ref 74, .int 3, .int x2, .int x3, .int (-1000000001)]) (st' := [.int (-1000000001)]) rfl ?_
        refine wp_if_f rfl (show ¬ (((-1000000001) : Int32) = 0) from by decide) ?_
        refine wp_run 2 (pc' := 45) (ls' := [.ref 74, .int 3, .int x2, .int x3, .int (-1000000001)]) (st' := [.int (-1000000001), .ref 74]) rfl ?_
        refine wp_callV (o := 74) (as := [.int (-1000000001)]) (rest := []) (els := [.ref 74, .int (-1000000001)]) rfl rfl rfl rfl rfl rfl rfl rfl (by omega) ?_
        refine sp_error1 ?_
        show am_wp L xs _ _ _ _ 48 [.ref 74, .int 3, .int x2, .int x3, .int (-1000000001)] [.int (-1000000001)] (am_S b) (am_u (am_u h 73 1 (h 73 1 + 1)) 77 1 ((am_u h 73 1 (h 73 1 + 1)) 77 1 + 1)) _
        refine wp_ret rfl ?_
        exact kk2 _ _ (re_err1 hR)
    · skip
      refine wp_run 1 (pc' := 14) (ls' := [.ref 0, .int 3, .int x2, .int x3]) (st' := [.ref 0]) rfl ?_
      refine wp_getr 64 rfl rfl rfl ?_
      refine wp_run 1 (pc' := 18) (ls' := [.ref 0, .int 3, .int x2, .int x3]) (st' := [.int 3, .ref 64]) rfl ?_
      refine wp_aald (r := 71) rfl rfl (Or.inr rfl) rfl (by decide) rfl rfl ?_
      refine wp_callV (o := 71) (as := []) (rest := []) (els := [.ref 71]) rfl rfl rfl rfl rfl rfl rfl rfl (by omega) ?_
      refine wp_run 1 (pc' := 1) (ls' := [.ref 71]) (st' := [.ref 71]) rfl ?_
      refine wp_geti (a := 1) 16 (hob.trans eb) rfl rfl rfl ?_
      refine wp_if_t rfl (show ¬ (16 : Int32) = 0 from by decide) ?_
      refine wp_run 1 (pc' := 12) (ls' := [.ref 71]) (st' := [.int 0]) rfl ?_
      refine wp_retz rfl (Or.inl rfl) ?_
      show am_wp L xs _ _ _ _ 22 [.ref 0, .int 3, .int x2, .int x3] [.int 0] (am_S b) h _
      refine wp_if_t rfl (show (0 : Int32) = 0 from by decide) ?_
      refine wp_run 3 (pc' := 34) (ls' := [.ref 0, .int 3, .int x2, .int x3]) (st' := [.ref 0, .int 0, .int x2]) rfl ?_
      refine wp_getr 64 rfl rfl rfl ?_
      refine wp_run 1 (pc' := 38) (ls' := [.ref 0, .int 3, .int x2, .int x3]) (st' := [.int 3, .ref 64, .int 0, .int x2]) rfl ?_
      refine wp_aald (r := 71) rfl rfl (Or.inr rfl) rfl (by decide) rfl rfl ?_
      refine wp_geti (a := 2) (nI l) ho2 rfl rfl rfl ?_
      refine wp_run 2 (pc' := 44) (ls' := [.ref 0, .int 3, .int x2, .int x3]) (st' := [.int ((nI l) - 1), .int 0, .int x2]) rfl ?_
      refine wp_callS (as := [.int x2, .int 0, .int ((nI l) - 1)]) (rest := []) (els := [.int x2, .int 0, .int ((nI l) - 1)]) rfl rfl rfl rfl rfl rfl rfl rfl (by omega) ?_
      refine sp_x_within1 (m := l) (by omega) rfl ?_ ?_
      · skip
        intro kx2 hkx2 ex2
        subst ex2
        show am_wp L xs _ _ _ _ 47 [.ref 0, .int 3, .int (nI kx2), .int x3] [.int 1] (am_S b) h _
        refine wp_if_t rfl (show ¬ (1 : Int32) = 0 from by decide) ?_
        refine wp_run 1 (pc' := 57) (ls' := [.ref 0, .int 3, .int (nI kx2), .int x3]) (st' := [.ref 0]) rfl ?_
        refine wp_getr 64 rfl rfl rfl ?_
        refine wp_run 1 (pc' := 61) (ls' := [.ref 0, .int 3, .int (nI kx2), .int x3]) (st' := [.int 3, .ref 64]) rfl ?_
        refine wp_aald (r := 71) rfl rfl (Or.inr rfl) rfl (by decide) rfl rfl ?_
        refine wp_run 2 (pc' := 64) (ls' := [.ref 0, .int 3, .int (nI kx2), .int x3]) (st' := [.int x3, .int (nI kx2), .ref 71]) rfl ?_
        refine wp_callV (o := 71) (as := [.int (nI kx2), .int x3]) (rest := []) (els := [.ref 71, .int (nI kx2), .int x3]) rfl rfl rfl rfl rfl rfl rfl rfl (by omega) ?_
        refine wp_run 1 (pc' := 1) (ls' := [.ref 71, .int (nI kx2), .int x3]) (st' := [.ref 71]) rfl ?_
        refine wp_getr 72 rfl rfl rfl ?_
        refine wp_run 2 (pc' := 6) (ls' := [.ref 71, .int (nI kx2), .int x3]) (st' := [.ref 71, .int (nI kx2), .ref 72]) rfl ?_
        refine wp_geti (a := 1) 16 (hob.trans eb) rfl rfl rfl ?_
        refine wp_run 1 (pc' := 11) (ls' := [.ref 71, .int (nI kx2), .int x3]) (st' := [.int 8, .int 16, .int (nI kx2), .ref 72]) rfl ?_
        refine wp_icmp_t rfl (show ¬ (16 : Int32) = 8 from by decide) ?_
        refine wp_run 1 (pc' := 20) (ls' := [.ref 71, .int (nI kx2), .int x3]) (st' := [.ref 71, .int (nI kx2), .ref 72]) rfl ?_
        refine wp_geti (a := 1) 16 (hob.trans eb) rfl rfl rfl ?_
        refine wp_run 1 (pc' := 25) (ls' := [.ref 71, .int (nI kx2), .int x3]) (st' := [.int 16, .int 16, .int (nI kx2), .ref 72]) rfl ?_
        refine wp_icmp_f rfl (show ¬ (¬ (16 : Int32) = 16) from by decide) ?_
        refine wp_run 3 (pc' := 34) (ls' := [.ref 71, .int (nI kx2), .int x3]) (st' := [.int (Int32.toInt16 x3).toInt32, .int (nI kx2), .ref 72]) rfl ?_
        refine wp_ast rfl rfl rfl (by omega) rfl ?_
        refine wp_retv rfl ?_
        show am_wp L xs _ _ _ _ 67 [.ref 0, .int 3, .int (nI kx2), .int x3] [] (am_S b) (am_u h 72 kx2 (Int32.toInt16 x3).toInt32) _
        refine wp_run 1 (pc' := 68) (ls' := [.ref 0, .int 3, .int (nI kx2), .int x3]) (st' := [.int 1]) rfl ?_
        refine wp_ret rfl ?_
        refine kk _ _ _ (fun ms2 Q2 kk2 => ?_)
        refine wp_run 2 (pc' := 2) (ls' := [.ref 74, .int 3, .int (nI kx2), .int x3, am_du]) (st' := [.int 3, .ref 74]) rfl ?_
        refine wp_callV (o := 74) (as := [.int 3]) (rest := []) (els := [.ref 74, .int 3]) rfl rfl rfl rfl rfl rfl rfl rfl (by omega) ?_
        refine wp_run 1 (pc' := 1) (ls' := [.ref 74, .int 3]) (st' := [.int 3]) rfl ?_
        refine wp_callS (as := [.int 3]) (rest := []) (els := [.int 3]) rfl rfl rfl rfl rfl rfl rfl rfl (by omega) ?_
        refine sp_m_isSheet (by omega) (fun _ _ _ => ?_) (fun q => absurd rfl (q 3 (by omega)))
        show am_wp L xs _ _ _ _ 4 [.ref 74, .int 3] [.int 1] (am_S b) (am_u h 72 kx2 (Int32.toInt16 x3).toInt32) _
        refine wp_if_t rfl (show ¬ (1 : Int32) = 0 from by decide) ?_
        refine wp_run 1 (pc' := 13) (ls' := [.ref 74, .int 3]) (st' := [.ref 74]) rfl ?_
        refine wp_getr 78 rfl rfl rfl ?_
        refine wp_run 1 (pc' := 17) (ls' := [.ref 74, .int 3]) (st' := [.int 3, .ref 78]) rfl ?_
        refine wp_ald (i := 3) 16 eb rfl rfl rfl (by decide) rfl ?_
        refine wp_if_t rfl (show ¬ (16 : Int32) = 0 from by decide) ?_
        refine wp_run 1 (pc' := 27) (ls' := [.ref 74, .int 3]) (st' := [.int 0]) rfl ?_
        refine wp_ret rfl ?_
        show am_wp L xs _ _ _ _ 5 [.ref 74, .int 3, .int (nI kx2), .int x3, am_du] [.int 0] (am_S b) (am_u h 72 kx2 (Int32.toInt16 x3).toInt32) _
        refine wp_run 2 (pc' := 9) (ls' := [.ref 74, .int 3, .int (nI kx2), .int x3, .int 0]) (st' := [.int 0]) rfl ?_
        refine wp_if_f rfl (show ¬ (¬ (0 : Int32) = 0) from by decide) ?_
        refine wp_run 3 (pc' := 15) (ls' := [.ref 74, .int 3, .int (nI kx2), .int x3, .int 0]) (st' := [.ref 74, .int 0, .int (nI kx2)]) rfl ?_
        refine wp_getr 79 rfl rfl rfl ?_
        refine wp_run 1 (pc' := 19) (ls' := [.ref 74, .int 3, .int (nI kx2), .int x3, .int 0]) (st' := [.int 3, .ref 79, .int 0, .int (nI kx2)]) rfl ?_
        refine wp_ald (i := 3) (nI l) hz2 rfl rfl rfl (by decide) rfl ?_
        refine wp_run 2 (pc' := 22) (ls' := [.ref 74, .int 3, .int (nI kx2), .int x3, .int 0]) (st' := [.int ((nI l) - 1), .int 0, .int (nI kx2)]) rfl ?_
        refine wp_callS (as := [.int (nI kx2), .int 0, .int ((nI l) - 1)]) (rest := []) (els := [.int (nI kx2), .int 0, .int ((nI l) - 1)]) rfl rfl rfl rfl rfl rfl rfl rfl (by omega) ?_
        refine sp_m_in1 (m := l) (by omega) rfl (fun _ _ _ => ?_) (fun q => absurd rfl (q kx2 (by omega)))
        show am_wp L xs _ _ _ _ 25 [.ref 74, .int 3, .int (nI kx2), .int x3, .int 0] [.int 1] (am_S b) (am_u h 72 kx2 (Int32.toInt16 x3).toInt32) _
        refine wp_if_t rfl (show ¬ (1 : Int32) = 0 from by decide) ?_
        refine wp_run 3 (pc' := 39) (ls' := [.ref 74, .int 3, .int (nI kx2), .int x3, .int 0]) (st' := [.int 0]) rfl ?_
        refine wp_if_t rfl (show (0 : Int32) = 0 from by decide) ?_
        refine wp_run 1 (pc' := 50) (ls' := [.ref 74, .int 3, .int (nI kx2), .int x3, .int 0]) (st' := [.ref 74]) rfl ?_
        refine wp_getr 80 rfl rfl rfl ?_
        refine wp_run 6 (pc' := 60) (ls' := [.ref 74, .int 3, .int (nI kx2), .int x3, .int 0]) (st' := [.ref 74, .int ((24 * 3) + (nI kx2)), .ref 80]) rfl ?_
        rw [show ((24 * 3) : Int32) = 72 from by decide]
        rw [show ((72 + (nI kx2)) : Int32) = (nI (72 + kx2)) from nI_add 72 kx2]
        refine wp_getr 78 rfl rfl rfl ?_
        refine wp_run 1 (pc' := 64) (ls' := [.ref 74, .int 3, .int (nI kx2), .int x3, .int 0]) (st' := [.int 3, .ref 78, .int (nI (72 + kx2)), .ref 80]) rfl ?_
        refine wp_ald (i := 3) 16 eb rfl rfl rfl (by decide) rfl ?_
        refine wp_run 1 (pc' := 67) (ls' := [.ref 74, .int 3, .int (nI kx2), .int x3, .int 0]) (st' := [.int 8, .int 16, .int (nI (72 + kx2)), .ref 80]) rfl ?_
        refine wp_icmp_t rfl (show ¬ (16 : Int32) = 8 from by decide) ?_
        refine wp_run 1 (pc' := 76) (ls' := [.ref 74, .int 3, .int (nI kx2), .int x3, .int 0]) (st' := [.ref 74, .int (nI (72 + kx2)), .ref 80]) rfl ?_
        refine wp_getr 78 rfl rfl rfl ?_
        refine wp_run 1 (pc' := 80) (ls' := [.ref 74, .int 3, .int (nI kx2), .int x3, .int 0]) (st' := [.int 3, .ref 78, .int (nI (72 + kx2)), .ref 80]) rfl ?_
        refine wp_ald (i := 3) 16 eb rfl rfl rfl (by decide) rfl ?_
        refine wp_run 1 (pc' := 83) (ls' := [.ref 74, .int 3, .int (nI kx2), .int x3, .int 0]) (st' := [.int 16, .int 16, .int (nI (72 + kx2)), .ref 80]) rfl ?_
        refine wp_icmp_f rfl (show ¬ (¬ (16 : Int32) = 16) from by decide) ?_
        refine wp_run 3 (pc' := 92) (ls' := [.ref 74, .int 3, .int (nI kx2), .int x3, .int 0]) (st' := [.int (Int32.toInt16 x3).toInt32, .int (nI (72 + kx2)), .ref 80]) rfl ?_
        refine wp_ast rfl rfl rfl (by omega) rfl ?_
        refine wp_run 1 (pc' := 94) (ls' := [.ref 74, .int 3, .int (nI kx2), .int x3, .int 0]) (st' := [.int 1]) rfl ?_
        refine wp_ret rfl ?_
        exact kk2 _ _ ⟨⟨n, c, t, tp, wt, s0, s1, p0, p1, H⟩, re_im_s hI, hE, (re_sh_o hS0 (s2 := 3) (by omega) (i := kx2) (by omega) ((Int32.toInt16 x3).toInt32)), (re_sh_o hS1 (s2 := 3) (by omega) (i := kx2) (by omega) ((Int32.toInt16 x3).toInt32)), (re_sh_o hS2 (s2 := 3) (by omega) (i := kx2) (by omega) ((Int32.toInt16 x3).toInt32)), (re_sh_w hS3 (i := kx2) (by omega) ((Int32.toInt16 x3).toInt32)), hT⟩
      · skip
        intro hnx2
        show am_wp L xs _ _ _ _ 47 [.ref 0, .int 3, .int x2, .int x3] [.int 0] (am_S b) h _
        refine wp_if_f rfl (show ¬ (¬ (0 : Int32) = 0) from by decide) ?_
        refine wp_run 2 (pc' := 52) (ls' := [.ref 0, .int 3, .int x2, .int x3]) (st' := [.int 1, .ref 0]) rfl ?_
        refine wp_callV (o := 0) (as := [.int 1]) (rest := []) (els := [.ref 0, .int 1]) rfl rfl rfl rfl rfl rfl rfl rfl (by omega) ?_
        refine sp_refuse1 (by omega) ?_
        show am_wp L xs _ _ _ _ 55 [.ref 0, .int 3, .int x2, .int x3] [.int (-1000000001)] (am_S b) (am_u h 73 1 (h 73 1 + 1)) _
        refine wp_ret rfl ?_
        refine kk _ _ _ (fun ms2 Q2 kk2 => ?_)
        refine wp_run 2 (pc' := 2) (ls' := [.ref 74, .int 3, .int x2, .int x3, am_du]) (st' := [.int 3, .ref 74]) rfl ?_
        refine wp_callV (o := 74) (as := [.int 3]) (rest := []) (els := [.ref 74, .int 3]) rfl rfl rfl rfl rfl rfl rfl rfl (by omega) ?_
        refine wp_run 1 (pc' := 1) (ls' := [.ref 74, .int 3]) (st' := [.int 3]) rfl ?_
        refine wp_callS (as := [.int 3]) (rest := []) (els := [.int 3]) rfl rfl rfl rfl rfl rfl rfl rfl (by omega) ?_
        refine sp_m_isSheet (by omega) (fun _ _ _ => ?_) (fun q => absurd rfl (q 3 (by omega)))
        show am_wp L xs _ _ _ _ 4 [.ref 74, .int 3] [.int 1] (am_S b) (am_u h 73 1 (h 73 1 + 1)) _
        refine wp_if_t rfl (show ¬ (1 : Int32) = 0 from by decide) ?_
        refine wp_run 1 (pc' := 13) (ls' := [.ref 74, .int 3]) (st' := [.ref 74]) rfl ?_
        refine wp_getr 78 rfl rfl rfl ?_
        refine wp_run 1 (pc' := 17) (ls' := [.ref 74, .int 3]) (st' := [.int 3, .ref 78]) rfl ?_
        refine wp_ald (i := 3) 16 eb rfl rfl rfl (by decide) rfl ?_
        refine wp_if_t rfl (show ¬ (16 : Int32) = 0 from by decide) ?_
        refine wp_run 1 (pc' := 27) (ls' := [.ref 74, .int 3]) (st' := [.int 0]) rfl ?_
        refine wp_ret rfl ?_
        show am_wp L xs _ _ _ _ 5 [.ref 74, .int 3, .int x2, .int x3, am_du] [.int 0] (am_S b) (am_u h 73 1 (h 73 1 + 1)) _
        refine wp_run 2 (pc' := 9) (ls' := [.ref 74, .int 3, .int x2, .int x3, .int 0]) (st' := [.int 0]) rfl ?_
        refine wp_if_f rfl (show ¬ (¬ (0 : Int32) = 0) from by decide) ?_
        refine wp_run 3 (pc' := 15) (ls' := [.ref 74, .int 3, .int x2, .int x3, .int 0]) (st' := [.ref 74, .int 0, .int x2]) rfl ?_
        refine wp_getr 79 rfl rfl rfl ?_
        refine wp_run 1 (pc' := 19) (ls' := [.ref 74, .int 3, .int x2, .int x3, .int 0]) (st' := [.int 3, .ref 79, .int 0, .int x2]) rfl ?_
        refine wp_ald (i := 3) (nI l) hz2 rfl rfl rfl (by decide) rfl ?_
        refine wp_run 2 (pc' := 22) (ls' := [.ref 74, .int 3, .int x2, .int x3, .int 0]) (st' := [.int ((nI l) - 1), .int 0, .int x2]) rfl ?_
        refine wp_callS (as := [.int x2, .int 0, .int ((nI l) - 1)]) (rest := []) (els := [.int x2, .int 0, .int ((nI l) - 1)]) rfl rfl rfl rfl rfl rfl rfl rfl (by omega) ?_
        refine sp_m_in1 (m := l) (by omega) rfl (fun k hk e => absurd e (hnx2 k hk)) (fun _ => ?_)
        show am_wp L xs _ _ _ _ 25 [.ref 74, .int 3, .int x2, .int x3, .int 0] [.int 0] (am_S b) (am_u h 73 1 (h 73 1 + 1)) _
        refine wp_if_f rfl (show ¬ (¬ (0 : Int32) = 0) from by decide) ?_
        refine wp_run 4 (pc' := 39) (ls' := [.ref 74, .int 3, .int x2, .int x3, .int (-1000000001)]) (st' := [.int (-1000000001)]) rfl ?_
        refine wp_if_f rfl (show ¬ (((-1000000001) : Int32) = 0) from by decide) ?_
        refine wp_run 2 (pc' := 45) (ls' := [.ref 74, .int 3, .int x2, .int x3, .int (-1000000001)]) (st' := [.int (-1000000001), .ref 74]) rfl ?_
        refine wp_callV (o := 74) (as := [.int (-1000000001)]) (rest := []) (els := [.ref 74, .int (-1000000001)]) rfl rfl rfl rfl rfl rfl rfl rfl (by omega) ?_
        refine sp_error1 ?_
        show am_wp L xs _ _ _ _ 48 [.ref 74, .int 3, .int x2, .int x3, .int (-1000000001)] [.int (-1000000001)] (am_S b) (am_u (am_u h 73 1 (h 73 1 + 1)) 77 1 ((am_u h 73 1 (h 73 1 + 1)) 77 1 + 1)) _
        refine wp_ret rfl ?_
        exact kk2 _ _ (re_err1 hR)
    · skip
      refine wp_run 1 (pc' := 14) (ls' := [.ref 0, .int 3, .int x2, .int x3]) (st' := [.ref 0]) rfl ?_
      refine wp_getr 64 rfl rfl rfl ?_
      refine wp_run 1 (pc' := 18) (ls' := [.ref 0, .int 3, .int x2, .int x3]) (st' := [.int 3, .ref 64]) rfl ?_
      refine wp_aald (r := 71) rfl rfl (Or.inr rfl) rfl (by decide) rfl rfl ?_
      refine wp_callV (o := 71) (as := []) (rest := []) (els := [.ref 71]) rfl rfl rfl rfl rfl rfl rfl rfl (by omega) ?_
      refine wp_run 1 (pc' := 1) (ls' := [.ref 71]) (st' := [.ref 71]) rfl ?_
      refine wp_geti (a := 1) 32 (hob.trans eb) rfl rfl rfl ?_
      refine wp_if_t rfl (show ¬ (32 : Int32) = 0 from by decide) ?_
      refine wp_run 1 (pc' := 12) (ls' := [.ref 71]) (st' := [.int 0]) rfl ?_
      refine wp_retz rfl (Or.inl rfl) ?_
      show am_wp L xs _ _ _ _ 22 [.ref 0, .int 3, .int x2, .int x3] [.int 0] (am_S b) h _
      refine wp_if_t rfl (show (0 : Int32) = 0 from by decide) ?_
      refine wp_run 3 (pc' := 34) (ls' := [.ref 0, .int 3, .int x2, .int x3]) (st' := [.ref 0, .int 0, .int x2]) rfl ?_
      refine wp_getr 64 rfl rfl rfl ?_
      refine wp_run 1 (pc' := 38) (ls' := [.ref 0, .int 3, .int x2, .int x3]) (st' := [.int 3, .ref 64, .int 0, .int x2]) rfl ?_
      refine wp_aald (r := 71) rfl rfl (Or.inr rfl) rfl (by decide) rfl rfl ?_
      refine wp_geti (a := 2) (nI l) ho2 rfl rfl rfl ?_
      refine wp_run 2 (pc' := 44) (ls' := [.ref 0, .int 3, .int x2, .int x3]) (st' := [.int ((nI l) - 1), .int 0, .int x2]) rfl ?_
      refine wp_callS (as := [.int x2, .int 0, .int ((nI l) - 1)]) (rest := []) (els := [.int x2, .int 0, .int ((nI l) - 1)]) rfl rfl rfl rfl rfl rfl rfl rfl (by omega) ?_
      refine sp_x_within1 (m := l) (by omega) rfl ?_ ?_
      · skip
        intro kx2 hkx2 ex2
        subst ex2
        show am_wp L xs _ _ _ _ 47 [.ref 0, .int 3, .int (nI kx2), .int x3] [.int 1] (am_S b) h _
        refine wp_if_t rfl (show ¬ (1 : Int32) = 0 from by decide) ?_
        refine wp_run 1 (pc' := 57) (ls' := [.ref 0, .int 3, .int (nI kx2), .int x3]) (st' := [.ref 0]) rfl ?_
        refine wp_getr 64 rfl rfl rfl ?_
        refine wp_run 1 (pc' := 61) (ls' := [.ref 0, .int 3, .int (nI kx2), .int x3]) (st' := [.int 3, .ref 64]) rfl ?_
        refine wp_aald (r := 71) rfl rfl (Or.inr rfl) rfl (by decide) rfl rfl ?_
        refine wp_run 2 (pc' := 64) (ls' := [.ref 0, .int 3, .int (nI kx2), .int x3]) (st' := [.int x3, .int (nI kx2), .ref 71]) rfl ?_
        refine wp_callV (o := 71) (as := [.int (nI kx2), .int x3]) (rest := []) (els := [.ref 71, .int (nI kx2), .int x3]) rfl rfl rfl rfl rfl rfl rfl rfl (by omega) ?_
        refine wp_run 1 (pc' := 1) (ls' := [.ref 71, .int (nI kx2), .int x3]) (st' := [.ref 71]) rfl ?_
        refine wp_getr 72 rfl rfl rfl ?_
        refine wp_run 2 (pc' := 6) (ls' := [.ref 71, .int (nI kx2), .int x3]) (st' := [.ref 71, .int (nI kx2), .ref 72]) rfl ?_
        refine wp_geti (a := 1) 32 (hob.trans eb) rfl rfl rfl ?_
        refine wp_run 1 (pc' := 11) (ls' := [.ref 71, .int (nI kx2), .int x3]) (st' := [.int 8, .int 32, .int (nI kx2), .ref 72]) rfl ?_
        refine wp_icmp_t rfl (show ¬ (32 : Int32) = 8 from by decide) ?_
        refine wp_run 1 (pc' := 20) (ls' := [.ref 71, .int (nI kx2), .int x3]) (st' := [.ref 71, .int (nI kx2), .ref 72]) rfl ?_
        refine wp_geti (a := 1) 32 (hob.trans eb) rfl rfl rfl ?_
        refine wp_run 1 (pc' := 25) (ls' := [.ref 71, .int (nI kx2), .int x3]) (st' := [.int 16, .int 32, .int (nI kx2), .ref 72]) rfl ?_
        refine wp_icmp_t rfl (show ¬ (32 : Int32) = 16 from by decide) ?_
        refine wp_run 1 (pc' := 34) (ls' := [.ref 71, .int (nI kx2), .int x3]) (st' := [.int x3, .int (nI kx2), .ref 72]) rfl ?_
        refine wp_ast rfl rfl rfl (by omega) rfl ?_
        refine wp_retv rfl ?_
        show am_wp L xs _ _ _ _ 67 [.ref 0, .int 3, .int (nI kx2), .int x3] [] (am_S b) (am_u h 72 kx2 x3) _
        refine wp_run 1 (pc' := 68) (ls' := [.ref 0, .int 3, .int (nI kx2), .int x3]) (st' := [.int 1]) rfl ?_
        refine wp_ret rfl ?_
        refine kk _ _ _ (fun ms2 Q2 kk2 => ?_)
        refine wp_run 2 (pc' := 2) (ls' := [.ref 74, .int 3, .int (nI kx2), .int x3, am_du]) (st' := [.int 3, .ref 74]) rfl ?_
        refine wp_callV (o := 74) (as := [.int 3]) (rest := []) (els := [.ref 74, .int 3]) rfl rfl rfl rfl rfl rfl rfl rfl (by omega) ?_
        refine wp_run 1 (pc' := 1) (ls' := [.ref 74, .int 3]) (st' := [.int 3]) rfl ?_
        refine wp_callS (as := [.int 3]) (rest := []) (els := [.int 3]) rfl rfl rfl rfl rfl rfl rfl rfl (by omega) ?_
        refine sp_m_isSheet (by omega) (fun _ _ _ => ?_) (fun q => absurd rfl (q 3 (by omega)))
        show am_wp L xs _ _ _ _ 4 [.ref 74, .int 3] [.int 1] (am_S b) (am_u h 72 kx2 x3) _
        refine wp_if_t rfl (show ¬ (1 : Int32) = 0 from by decide) ?_
        refine wp_run 1 (pc' := 13) (ls' := [.ref 74, .int 3]) (st' := [.ref 74]) rfl ?_
        refine wp_getr 78 rfl rfl rfl ?_
        refine wp_run 1 (pc' := 17) (ls' := [.ref 74, .int 3]) (st' := [.int 3, .ref 78]) rfl ?_
        refine wp_ald (i := 3) 32 eb rfl rfl rfl (by decide) rfl ?_
        refine wp_if_t rfl (show ¬ (32 : Int32) = 0 from by decide) ?_
        refine wp_run 1 (pc' := 27) (ls' := [.ref 74, .int 3]) (st' := [.int 0]) rfl ?_
        refine wp_ret rfl ?_
        show am_wp L xs _ _ _ _ 5 [.ref 74, .int 3, .int (nI kx2), .int x3, am_du] [.int 0] (am_S b) (am_u h 72 kx2 x3) _
        refine wp_run 2 (pc' := 9) (ls' := [.ref 74, .int 3, .int (nI kx2), .int x3, .int 0]) (st' := [.int 0]) rfl ?_
        refine wp_if_f rfl (show ¬ (¬ (0 : Int32) = 0) from by decide) ?_
        refine wp_run 3 (pc' := 15) (ls' := [.ref 74, .int 3, .int (nI kx2), .int x3, .int 0]) (st' := [.ref 74, .int 0, .int (nI kx2)]) rfl ?_
        refine wp_getr 79 rfl rfl rfl ?_
        refine wp_run 1 (pc' := 19) (ls' := [.ref 74, .int 3, .int (nI kx2), .int x3, .int 0]) (st' := [.int 3, .ref 79, .int 0, .int (nI kx2)]) rfl ?_
        refine wp_ald (i := 3) (nI l) hz2 rfl rfl rfl (by decide) rfl ?_
        refine wp_run 2 (pc' := 22) (ls' := [.ref 74, .int 3, .int (nI kx2), .int x3, .int 0]) (st' := [.int ((nI l) - 1), .int 0, .int (nI kx2)]) rfl ?_
        refine wp_callS (as := [.int (nI kx2), .int 0, .int ((nI l) - 1)]) (rest := []) (els := [.int (nI kx2), .int 0, .int ((nI l) - 1)]) rfl rfl rfl rfl rfl rfl rfl rfl (by omega) ?_
        refine sp_m_in1 (m := l) (by omega) rfl (fun _ _ _ => ?_) (fun q => absurd rfl (q kx2 (by omega)))
        show am_wp L xs _ _ _ _ 25 [.ref 74, .int 3, .int (nI kx2), .int x3, .int 0] [.int 1] (am_S b) (am_u h 72 kx2 x3) _
        refine wp_if_t rfl (show ¬ (1 : Int32) = 0 from by decide) ?_
        refine wp_run 3 (pc' := 39) (ls' := [.ref 74, .int 3, .int (nI kx2), .int x3, .int 0]) (st' := [.int 0]) rfl ?_
        refine wp_if_t rfl (show (0 : Int32) = 0 from by decide) ?_
        refine wp_run 1 (pc' := 50) (ls' := [.ref 74, .int 3, .int (nI kx2), .int x3, .int 0]) (st' := [.ref 74]) rfl ?_
        refine wp_getr 80 rfl rfl rfl ?_
        refine wp_run 6 (pc' := 60) (ls' := [.ref 74, .int 3, .int (nI kx2), .int x3, .int 0]) (st' := [.ref 74, .int ((24 * 3) + (nI kx2)), .ref 80]) rfl ?_
        rw [show ((24 * 3) : Int32) = 72 from by decide]
        rw [show ((72 + (nI kx2)) : Int32) = (nI (72 + kx2)) from nI_add 72 kx2]
        refine wp_getr 78 rfl rfl rfl ?_
        refine wp_run 1 (pc' := 64) (ls' := [.ref 74, .int 3, .int (nI kx2), .int x3, .int 0]) (st' := [.int 3, .ref 78, .int (nI (72 + kx2)), .ref 80]) rfl ?_
        refine wp_ald (i := 3) 32 eb rfl rfl rfl (by decide) rfl ?_
        refine wp_run 1 (pc' := 67) (ls' := [.ref 74, .int 3, .int (nI kx2), .int x3, .int 0]) (st' := [.int 8, .int 32, .int (nI (72 + kx2)), .ref 80]) rfl ?_
        refine wp_icmp_t rfl (show ¬ (32 : Int32) = 8 from by decide) ?_
        refine wp_run 1 (pc' := 76) (ls' := [.ref 74, .int 3, .int (nI kx2), .int x3, .int 0]) (st' := [.ref 74, .int (nI (72 + kx2)), .ref 80]) rfl ?_
        refine wp_getr 78 rfl rfl rfl ?_
        refine wp_run 1 (pc' := 80) (ls' := [.ref 74, .int 3, .int (nI kx2), .int x3, .int 0]) (st' := [.int 3, .ref 78, .int (nI (72 + kx2)), .ref 80]) rfl ?_
        refine wp_ald (i := 3) 32 eb rfl rfl rfl (by decide) rfl ?_
        refine wp_run 1 (pc' := 83) (ls' := [.ref 74, .int 3, .int (nI kx2), .int x3, .int 0]) (st' := [.int 16, .int 32, .int (nI (72 + kx2)), .ref 80]) rfl ?_
        refine wp_icmp_t rfl (show ¬ (32 : Int32) = 16 from by decide) ?_
        refine wp_run 1 (pc' := 92) (ls' := [.ref 74, .int 3, .int (nI kx2), .int x3, .int 0]) (st' := [.int x3, .int (nI (72 + kx2)), .ref 80]) rfl ?_
        refine wp_ast rfl rfl rfl (by omega) rfl ?_
        refine wp_run 1 (pc' := 94) (ls' := [.ref 74, .int 3, .int (nI kx2), .int x3, .int 0]) (st' := [.int 1]) rfl ?_
        refine wp_ret rfl ?_
        exact kk2 _ _ ⟨⟨n, c, t, tp, wt, s0, s1, p0, p1, H⟩, re_im_s hI, hE, (re_sh_o hS0 (s2 := 3) (by omega) (i := kx2) (by omega) x3), (re_sh_o hS1 (s2 := 3) (by omega) (i := kx2) (by omega) x3), (re_sh_o hS2 (s2 := 3) (by omega) (i := kx2) (by omega) x3), (re_sh_w hS3 (i := kx2) (by omega) x3), hT⟩
      · skip
        intro hnx2
        show am_wp L xs _ _ _ _ 47 [.ref 0, .int 3, .int x2, .int x3] [.int 0] (am_S b) h _
        refine wp_if_f rfl (show ¬ (¬ (0 : Int32) = 0) from by decide) ?_
        refine wp_run 2 (pc' := 52) (ls' := [.ref 0, .int 3, .int x2, .int x3]) (st' := [.int 1, .ref 0]) rfl ?_
        refine wp_callV (o := 0) (as := [.int 1]) (rest := []) (els := [.ref 0, .int 1]) rfl rfl rfl rfl rfl rfl rfl rfl (by omega) ?_
        refine sp_refuse1 (by omega) ?_
        show am_wp L xs _ _ _ _ 55 [.ref 0, .int 3, .int x2, .int x3] [.int (-1000000001)] (am_S b) (am_u h 73 1 (h 73 1 + 1)) _
        refine wp_ret rfl ?_
        refine kk _ _ _ (fun ms2 Q2 kk2 => ?_)
        refine wp_run 2 (pc' := 2) (ls' := [.ref 74, .int 3, .int x2, .int x3, am_du]) (st' := [.int 3, .ref 74]) rfl ?_
        refine wp_callV (o := 74) (as := [.int 3]) (rest := []) (els := [.ref 74, .int 3]) rfl rfl rfl rfl rfl rfl rfl rfl (by omega) ?_
        refine wp_run 1 (pc' := 1) (ls' := [.ref 74, .int 3]) (st' := [.int 3]) rfl ?_
        refine wp_callS (as := [.int 3]) (rest := []) (els := [.int 3]) rfl rfl rfl rfl rfl rfl rfl rfl (by omega) ?_
        refine sp_m_isSheet (by omega) (fun _ _ _ => ?_) (fun q => absurd rfl (q 3 (by omega)))
        show am_wp L xs _ _ _ _ 4 [.ref 74, .int 3] [.int 1] (am_S b) (am_u h 73 1 (h 73 1 + 1)) _
        refine wp_if_t rfl (show ¬ (1 : Int32) = 0 from by decide) ?_
        refine wp_run 1 (pc' := 13) (ls' := [.ref 74, .int 3]) (st' := [.ref 74]) rfl ?_
        refine wp_getr 78 rfl rfl rfl ?_
        refine wp_run 1 (pc' := 17) (ls' := [.ref 74, .int 3]) (st' := [.int 3, .ref 78]) rfl ?_
        refine wp_ald (i := 3) 32 eb rfl rfl rfl (by decide) rfl ?_
        refine wp_if_t rfl (show ¬ (32 : Int32) = 0 from by decide) ?_
        refine wp_run 1 (pc' := 27) (ls' := [.ref 74, .int 3]) (st' := [.int 0]) rfl ?_
        refine wp_ret rfl ?_
        show am_wp L xs _ _ _ _ 5 [.ref 74, .int 3, .int x2, .int x3, am_du] [.int 0] (am_S b) (am_u h 73 1 (h 73 1 + 1)) _
        refine wp_run 2 (pc' := 9) (ls' := [.ref 74, .int 3, .int x2, .int x3, .int 0]) (st' := [.int 0]) rfl ?_
        refine wp_if_f rfl (show ¬ (¬ (0 : Int32) = 0) from by decide) ?_
        refine wp_run 3 (pc' := 15) (ls' := [.ref 74, .int 3, .int x2, .int x3, .int 0]) (st' := [.ref 74, .int 0, .int x2]) rfl ?_
        refine wp_getr 79 rfl rfl rfl ?_
        refine wp_run 1 (pc' := 19) (ls' := [.ref 74, .int 3, .int x2, .int x3, .int 0]) (st' := [.int 3, .ref 79, .int 0, .int x2]) rfl ?_
        refine wp_ald (i := 3) (nI l) hz2 rfl rfl rfl (by decide) rfl ?_
        refine wp_run 2 (pc' := 22) (ls' := [.ref 74, .int 3, .int x2, .int x3, .int 0]) (st' := [.int ((nI l) - 1), .int 0, .int x2]) rfl ?_
        refine wp_callS (as := [.int x2, .int 0, .int ((nI l) - 1)]) (rest := []) (els := [.int x2, .int 0, .int ((nI l) - 1)]) rfl rfl rfl rfl rfl rfl rfl rfl (by omega) ?_
        refine sp_m_in1 (m := l) (by omega) rfl (fun k hk e => absurd e (hnx2 k hk)) (fun _ => ?_)
        show am_wp L xs _ _ _ _ 25 [.ref 74, .int 3, .int x2, .int x3, .int 0] [.int 0] (am_S b) (am_u h 73 1 (h 73 1 + 1)) _
        refine wp_if_f rfl (show ¬ (¬ (0 : Int32) = 0) from by decide) ?_
        refine wp_run 4 (pc' := 39) (ls' := [.ref 74, .int 3, .int x2, .int x3, .int (-1000000001)]) (st' := [.int (-1000000001)]) rfl ?_
        refine wp_if_f rfl (show ¬ (((-1000000001) : Int32) = 0) from by decide) ?_
        refine wp_run 2 (pc' := 45) (ls' := [.ref 74, .int 3, .int x2, .int x3, .int (-1000000001)]) (st' := [.int (-1000000001), .ref 74]) rfl ?_
        refine wp_callV (o := 74) (as := [.int (-1000000001)]) (rest := []) (els := [.ref 74, .int (-1000000001)]) rfl rfl rfl rfl rfl rfl rfl rfl (by omega) ?_
        refine sp_error1 ?_
        show am_wp L xs _ _ _ _ 48 [.ref 74, .int 3, .int x2, .int x3, .int (-1000000001)] [.int (-1000000001)] (am_S b) (am_u (am_u h 73 1 (h 73 1 + 1)) 77 1 ((am_u h 73 1 (h 73 1 + 1)) 77 1 + 1)) _
        refine wp_ret rfl ?_
        exact kk2 _ _ (re_err1 hR)
  · skip
    intro hnx1
    show am_wp L xs _ _ _ _ 4 [.ref 0, .int x1, .int x2, .int x3] [.int 0] (am_S b) h _
    refine wp_if_f rfl (show ¬ (¬ (0 : Int32) = 0) from by decide) ?_
    refine wp_run 2 (pc' := 9) (ls' := [.ref 0, .int x1, .int x2, .int x3]) (st' := [.int 1, .ref 0]) rfl ?_
    refine wp_callV (o := 0) (as := [.int 1]) (rest := []) (els := [.ref 0, .int 1]) rfl rfl rfl rfl rfl rfl rfl rfl (by omega) ?_
    refine sp_refuse1 (by omega) ?_
    show am_wp L xs _ _ _ _ 12 [.ref 0, .int x1, .int x2, .int x3] [.int (-1000000001)] (am_S b) (am_u h 73 1 (h 73 1 + 1)) _
    refine wp_ret rfl ?_
    refine kk _ _ _ (fun ms2 Q2 kk2 => ?_)
    refine wp_run 2 (pc' := 2) (ls' := [.ref 74, .int x1, .int x2, .int x3, am_du]) (st' := [.int x1, .ref 74]) rfl ?_
    refine wp_callV (o := 74) (as := [.int x1]) (rest := []) (els := [.ref 74, .int x1]) rfl rfl rfl rfl rfl rfl rfl rfl (by omega) ?_
    refine wp_run 1 (pc' := 1) (ls' := [.ref 74, .int x1]) (st' := [.int x1]) rfl ?_
    refine wp_callS (as := [.int x1]) (rest := []) (els := [.int x1]) rfl rfl rfl rfl rfl rfl rfl rfl (by omega) ?_
    refine sp_m_isSheet (by omega) (fun k hk e => absurd e (hnx1 k hk)) (fun _ => ?_)
    show am_wp L xs _ _ _ _ 4 [.ref 74, .int x1] [.int 0] (am_S b) (am_u h 73 1 (h 73 1 + 1)) _
    refine wp_if_f rfl (show ¬ (¬ (0 : Int32) = 0) from by decide) ?_
    refine wp_run 2 (pc' := 27) (ls' := [.ref 74, .int x1]) (st' := [.int (-1000000001)]) rfl ?_
    refine wp_ret rfl ?_
    show am_wp L xs _ _ _ _ 5 [.ref 74, .int x1, .int x2, .int x3, am_du] [.int (-1000000001)] (am_S b) (am_u h 73 1 (h 73 1 + 1)) _
    refine wp_run 2 (pc' := 9) (ls' := [.ref 74, .int x1, .int x2, .int x3, .int (-1000000001)]) (st' := [.int (-1000000001)]) rfl ?_
    refine wp_if_t rfl (show ¬ ((-1000000001) : Int32) = 0 from by decide) ?_
    refine wp_run 3 (pc' := 39) (ls' := [.ref 74, .int x1, .int x2, .int x3, .int (-1000000001)]) (st' := [.int (-1000000001)]) rfl ?_
    refine wp_if_f rfl (show ¬ (((-1000000001) : Int32) = 0) from by decide) ?_
    refine wp_run 2 (pc' := 45) (ls' := [.ref 74, .int x1, .int x2, .int x3, .int (-1000000001)]) (st' := [.int (-1000000001), .ref 74]) rfl ?_
    refine wp_callV (o := 74) (as := [.int (-1000000001)]) (rest := []) (els := [.ref 74, .int (-1000000001)]) rfl rfl rfl rfl rfl rfl rfl rfl (by omega) ?_
    refine sp_error1 ?_
    show am_wp L xs _ _ _ _ 48 [.ref 74, .int x1, .int x2, .int x3, .int (-1000000001)] [.int (-1000000001)] (am_S b) (am_u (am_u h 73 1 (h 73 1 + 1)) 77 1 ((am_u h 73 1 (h 73 1 + 1)) 77 1 + 1)) _
    refine wp_ret rfl ?_
    exact kk2 _ _ (re_err1 hR)
