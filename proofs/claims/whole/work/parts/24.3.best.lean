/-! calls tied: best -/
theorem am_ov3 {h g g2 : am_HI} {l l2 : List Nat} (h1 : (l.all fun x => re_scr.elem x) = true) (h2 : (l2.all fun x => re_scr.elem x) = true) : ∀ a, re_scr.elem a = false → am_ov (am_ov h l g) l2 g2 a = h a := fun a ha => by
  rw [am_ov_off (am_sub ha h2), am_ov_off (am_sub ha h1)]
theorem op_best {L : Nat} {xs : Nat → Int32} {d ms b N : Nat} {h : am_HI} {Q : am_Q} {x1 : Int32} (hd : 30 ≤ d) (hR : am_Rel N h) (hN : N < 100000)
    (kk : ∀ v b1 h1, (∀ ms2 Q2, (∀ b2 h2, am_Rel (N + 1) h2 → Q2 (some (.int v)) (am_S b2) h2) → am_wp L xs d 0 ms2 183 0 [.ref 74, .int x1] [] (am_S b1) h1 Q2) → Q (some (.int v)) (am_S b1) h1) :
    am_wp L xs d 0 ms 76 0 [.ref 0, .int x1] [] (am_S b) h Q := by
  obtain ⟨⟨n, c, t, tp, wt, s0, s1, p0, p1, H⟩, hI, hE, hS0, hS1, hS2, hS3, hT⟩ := id hR
  have hn := H.1.1
  have hm2 := H.1.2.1
  have hn7 := H.1.2.2
  have hc := H.2.1.1
  have hm3 := H.2.1.2.1
  have hc7 := H.2.1.2.2
  have ht := H.2.2.1.1
  have hm0 := H.2.2.1.2.1
  have ht9 := H.2.2.1.2.2
  have HS := re_hs H
  have HM := re_ms H
  refine wp_run 3 (pc' := 4) (ls' := [.ref 0, .int x1]) (st' := [.int 6, .int (-1), .int x1]) rfl ?_
  refine wp_callS (as := [.int x1, .int (-1), .int 6]) (rest := []) (els := [.int x1, .int (-1), .int 6]) rfl rfl rfl rfl rfl rfl rfl rfl (by omega) ?_
  refine sp_x_withinm (m := 7) (by omega) (by decide) ?_ ?_ ?_
  · skip
    intro ex1
    subst ex1
    show am_wp L xs _ _ _ _ 7 [.ref 0, .int (-1)] [.int 1] (am_S b) h _
    refine wp_if_t rfl (show ¬ (1 : Int32) = 0 from by decide) ?_
    refine wp_run 2 (pc' := 18) (ls' := [.ref 0, .int (-1)]) (st' := [.ref 0, .int (-1)]) rfl ?_
    refine wp_getr 1 rfl rfl rfl ?_
    refine wp_geti (a := 10) (nI n) hn rfl rfl rfl ?_
    refine wp_icmp_t rfl (show ((-1) : Int32) < (nI n) from Int32.lt_of_lt_of_le (show (-1 : Int32) < 0 from by decide) (pu_0 (by omega))) ?_
    refine wp_run 1 (pc' := 34) (ls' := [.ref 0, .int (-1)]) (st' := [.ref 0]) rfl ?_
    refine wp_getr 49 rfl rfl rfl ?_
    refine wp_run 1 (pc' := 38) (ls' := [.ref 0, .int (-1)]) (st' := [.ref 0, .ref 49]) rfl ?_
    refine wp_getr 1 rfl rfl rfl ?_
    refine wp_callV (o := 49) (as := [.ref 1]) (rest := []) (els := [.ref 49, .ref 1, am_du, am_du, am_du]) rfl rfl rfl rfl rfl rfl rfl rfl (by omega) ?_
    refine sp_giveBest HS (by omega) (fun gz1 g49 g50 => ?_)
    show am_wp L xs _ _ _ _ 44 [.ref 0, .int (-1)] [] (am_S b) (am_ov h [22, 23, 49, 50, 54, 55] gz1) _
    refine wp_run 1 (pc' := 45) (ls' := [.ref 0, .int (-1)]) (st' := [.int (-1)]) rfl ?_
    refine wp_if_f rfl (show ¬ (0 ≤ ((-1) : Int32)) from by decide) ?_
    refine wp_run 1 (pc' := 49) (ls' := [.ref 0, .int (-1)]) (st' := [.ref 0]) rfl ?_
    refine wp_getr 49 rfl rfl rfl ?_
    refine wp_geti (a := 1) (bs_V (fun j g => hs_mk h s1 p1 j g) c n n 0) g49 rfl rfl rfl ?_
    refine wp_run 1 (pc' := 67) (ls' := [.ref 0, .int (-1)]) (st' := [.int (bs_V (fun j g => hs_mk h s1 p1 j g) c n n 0)]) rfl ?_
    refine wp_ret rfl ?_
    refine kk _ _ _ (fun ms2 Q2 kk2 => ?_)
    refine wp_run 3 (pc' := 4) (ls' := [.ref 74, .int (-1)]) (st' := [.int 6, .int (-1), .int (-1)]) rfl ?_
    refine wp_callS (as := [.int (-1), .int (-1), .int 6]) (rest := []) (els := [.int (-1), .int (-1), .int 6]) rfl rfl rfl rfl rfl rfl rfl rfl (by omega) ?_
    refine sp_m_inm (m := 7) (by omega) (by decide) (fun _ => ?_) (fun k hk e => absurd e.symm (pu_ne1 (by omega))) (fun q _ => absurd rfl q)
    show am_wp L xs _ _ _ _ 7 [.ref 74, .int (-1)] [.int 1] (am_S b) (am_ov h [22, 23, 49, 50, 54, 55] gz1) _
    refine wp_if_t rfl (show ¬ (1 : Int32) = 0 from by decide) ?_
    refine wp_run 2 (pc' := 19) (ls' := [.ref 74, .int (-1)]) (st' := [.ref 74, .int (-1)]) rfl ?_
    refine wp_getr 75 rfl rfl rfl ?_
    refine wp_run 1 (pc' := 23) (ls' := [.ref 74, .int (-1)]) (st' := [.int 2, .ref 75, .int (-1)]) rfl ?_
    refine wp_ald (i := 2) (nI n) hm2 rfl rfl rfl (by decide) rfl ?_
    refine wp_icmp_t rfl (show ((-1) : Int32) < (nI n) from Int32.lt_of_lt_of_le (show (-1 : Int32) < 0 from by decide) (pu_0 (by omega))) ?_
    refine wp_run 1 (pc' := 35) (ls' := [.ref 74, .int (-1)]) (st' := [.ref 74]) rfl ?_
    refine wp_callV (o := 74) (as := []) (rest := []) (els := [.ref 74, am_du, am_du, am_du, am_du, am_du]) rfl rfl rfl rfl rfl rfl rfl rfl (by omega) ?_
    refine sp_findBest (h := (am_ov h [22, 23, 49, 50, 54, 55] gz1)) (n := n) (c := c) (t := t) (s0 := s0) (s1 := s1) (p0 := p0) (p1 := p1) (MK := (fun j g => hs_mk h s1 p1 j g)) HM (fun g hg j hj => re_mk H hj hg) (by omega) (fun gz2 g85 g88 => ?_)
    show am_wp L xs _ _ _ _ 38 [.ref 74, .int (-1)] [] (am_S b) (am_ov (am_ov h [22, 23, 49, 50, 54, 55] gz1) [83, 84, 85, 86, 87, 88] gz2) _
    refine wp_run 1 (pc' := 39) (ls' := [.ref 74, .int (-1)]) (st' := [.int (-1)]) rfl ?_
    refine wp_if_f rfl (show ¬ (0 ≤ ((-1) : Int32)) from by decide) ?_
    refine wp_run 1 (pc' := 43) (ls' := [.ref 74, .int (-1)]) (st' := [.ref 74]) rfl ?_
    refine wp_getr 85 rfl rfl rfl ?_
    refine wp_run 1 (pc' := 47) (ls' := [.ref 74, .int (-1)]) (st' := [.int 0, .ref 85]) rfl ?_
    refine wp_ald (i := 0) (bs_V (fun j g => hs_mk h s1 p1 j g) c n n 0) g85 rfl rfl rfl (by decide) rfl ?_
    refine wp_run 1 (pc' := 57) (ls' := [.ref 74, .int (-1)]) (st' := [.int (bs_V (fun j g => hs_mk h s1 p1 j g) c n n 0)]) rfl ?_
    refine wp_ret rfl ?_
    exact kk2 _ _ (re_keep hR (am_ov3 rfl rfl) ⟨n, c, t, tp, wt, s0, s1, p0, p1, H⟩)
  · skip
    intro kx1 hkx1 ex1
    subst ex1
    show am_wp L xs _ _ _ _ 7 [.ref 0, .int (nI kx1)] [.int 1] (am_S b) h _
    refine wp_if_t rfl (show ¬ (1 : Int32) = 0 from by decide) ?_
    refine wp_run 2 (pc' := 18) (ls' := [.ref 0, .int (nI kx1)]) (st' := [.ref 0, .int (nI kx1)]) rfl ?_
    refine wp_getr 1 rfl rfl rfl ?_
    refine wp_geti (a := 10) (nI n) hn rfl rfl rfl ?_
    refine wp_icmp rfl (fun (cqlt : (nI kx1) < (nI n)) => ?_) (fun (cqlt : ¬ ((nI kx1) < (nI n))) => ?_)
    · skip
      have cqltn : kx1 < n := (nI_ltI (a := kx1) (b := n) (by omega) (by omega)).mp cqlt
      refine wp_run 1 (pc' := 34) (ls' := [.ref 0, .int (nI kx1)]) (st' := [.ref 0]) rfl ?_
      refine wp_getr 49 rfl rfl rfl ?_
      refine wp_run 1 (pc' := 38) (ls' := [.ref 0, .int (nI kx1)]) (st' := [.ref 0, .ref 49]) rfl ?_
      refine wp_getr 1 rfl rfl rfl ?_
      refine wp_callV (o := 49) (as := [.ref 1]) (rest := []) (els := [.ref 49, .ref 1, am_du, am_du, am_du]) rfl rfl rfl rfl rfl rfl rfl rfl (by omega) ?_
      refine sp_giveBest HS (by omega) (fun gz1 g49 g50 => ?_)
      show am_wp L xs _ _ _ _ 44 [.ref 0, .int (nI kx1)] [] (am_S b) (am_ov h [22, 23, 49, 50, 54, 55] gz1) _
      refine wp_run 1 (pc' := 45) (ls' := [.ref 0, .int (nI kx1)]) (st' := [.int (nI kx1)]) rfl ?_
      refine wp_if_t rfl (show 0 ≤ (nI kx1) from (nI_leI (a := 0) (b := kx1) (by omega) (by omega)).mpr (by omega)) ?_
      refine wp_run 1 (pc' := 59) (ls' := [.ref 0, .int (nI kx1)]) (st' := [.ref 0]) rfl ?_
      refine wp_getr 49 rfl rfl rfl ?_
      refine wp_getr 50 rfl rfl rfl ?_
      refine wp_run 1 (pc' := 66) (ls' := [.ref 0, .int (nI kx1)]) (st' := [.int (nI kx1), .ref 50]) rfl ?_
      refine wp_ald (i := kx1) (bs_gv (fun j g => hs_mk h s1 p1 j g) c n kx1) (g50 kx1 (by omega)) rfl rfl rfl (by omega) rfl ?_
      refine wp_ret rfl ?_
      refine kk _ _ _ (fun ms2 Q2 kk2 => ?_)
      refine wp_run 3 (pc' := 4) (ls' := [.ref 74, .int (nI kx1)]) (st' := [.int 6, .int (-1), .int (nI kx1)]) rfl ?_
      refine wp_callS (as := [.int (nI kx1), .int (-1), .int 6]) (rest := []) (els := [.int (nI kx1), .int (-1), .int 6]) rfl rfl rfl rfl rfl rfl rfl rfl (by omega) ?_
      refine sp_m_inm (m := 7) (by omega) (by decide) (fun q => absurd q (pu_ne1 (by omega))) (fun _ _ _ => ?_) (fun _ q => absurd rfl (q kx1 (by omega)))
      show am_wp L xs _ _ _ _ 7 [.ref 74, .int (nI kx1)] [.int 1] (am_S b) (am_ov h [22, 23, 49, 50, 54, 55] gz1) _
      refine wp_if_t rfl (show ¬ (1 : Int32) = 0 from by decide) ?_
      refine wp_run 2 (pc' := 19) (ls' := [.ref 74, .int (nI kx1)]) (st' := [.ref 74, .int (nI kx1)]) rfl ?_
      refine wp_getr 75 rfl rfl rfl ?_
      refine wp_run 1 (pc' := 23) (ls' := [.ref 74, .int (nI kx1)]) (st' := [.int 2, .ref 75, .int (nI kx1)]) rfl ?_
      refine wp_ald (i := 2) (nI n) hm2 rfl rfl rfl (by decide) rfl ?_
      refine wp_icmp_t rfl (show (nI kx1) < (nI n) from (nI_ltI (a := kx1) (b := n) (by omega) (by omega)).mpr (by omega)) ?_
      refine wp_run 1 (pc' := 35) (ls' := [.ref 74, .int (nI kx1)]) (st' := [.ref 74]) rfl ?_
      refine wp_callV (o := 74) (as := []) (rest := []) (els := [.ref 74, am_du, am_du, am_du, am_du, am_du]) rfl rfl rfl rfl rfl rfl rfl rfl (by omega) ?_
      refine sp_findBest (h := (am_ov h [22, 23, 49, 50, 54, 55] gz1)) (n := n) (c := c) (t := t) (s0 := s0) (s1 := s1) (p0 := p0) (p1 := p1) (MK := (fun j g => hs_mk h s1 p1 j g)) HM (fun g hg j hj => re_mk H hj hg) (by omega) (fun gz2 g85 g88 => ?_)
      show am_wp L xs _ _ _ _ 38 [.ref 74, .int (nI kx1)] [] (am_S b) (am_ov (am_ov h [22, 23, 49, 50, 54, 55] gz1) [83, 84, 85, 86, 87, 88] gz2) _
      refine wp_run 1 (pc' := 39) (ls' := [.ref 74, .int (nI kx1)]) (st' := [.int (nI kx1)]) rfl ?_
      refine wp_if_t rfl (show 0 ≤ (nI kx1) from (nI_leI (a := 0) (b := kx1) (by omega) (by omega)).mpr (by omega)) ?_
      refine wp_run 1 (pc' := 52) (ls' := [.ref 74, .int (nI kx1)]) (st' := [.ref 74]) rfl ?_
      refine wp_getr 88 rfl rfl rfl ?_
      refine wp_run 1 (pc' := 56) (ls' := [.ref 74, .int (nI kx1)]) (st' := [.int (nI kx1), .ref 88]) rfl ?_
      refine wp_ald (i := kx1) (bs_gv (fun j g => hs_mk h s1 p1 j g) c n kx1) (g88 kx1 (by omega)) rfl rfl rfl (by omega) rfl ?_
      refine wp_ret rfl ?_
      exact kk2 _ _ (re_keep hR (am_ov3 rfl rfl) ⟨n, c, t, tp, wt, s0, s1, p0, p1, H⟩)
    · skip
      have cqltn : ¬ (kx1 < n) := fun q => cqlt ((nI_ltI (a := kx1) (b := n) (by omega) (by omega)).mpr q)
      refine wp_run 2 (pc' := 29) (ls' := [.ref 0, .int (nI kx1)]) (st' := [.int 2, .ref 0]) rfl ?_
      refine wp_callV (o := 0) (as := [.int 2]) (rest := []) (els := [.ref 0, .int 2]) rfl rfl rfl rfl rfl rfl rfl rfl (by omega) ?_
      refine sp_refuse2 (by omega) ?_
      show am_wp L xs _ _ _ _ 32 [.ref 0, .int (nI kx1)] [.int (-1000000002)] (am_S b) (am_u h 73 2 (h 73 2 + 1)) _
      refine wp_ret rfl ?_
      refine kk _ _ _ (fun ms2 Q2 kk2 => ?_)
      refine wp_run 3 (pc' := 4) (ls' := [.ref 74, .int (nI kx1)]) (st' := [.int 6, .int (-1), .int (nI kx1)]) rfl ?_
      refine wp_callS (as := [.int (nI kx1), .int (-1), .int 6]) (rest := []) (els := [.int (nI kx1), .int (-1), .int 6]) rfl rfl rfl rfl rfl rfl rfl rfl (by omega) ?_
      refine sp_m_inm (m := 7) (by omega) (by decide) (fun q => absurd q (pu_ne1 (by omega))) (fun _ _ _ => ?_) (fun _ q => absurd rfl (q kx1 (by omega)))
      show am_wp L xs _ _ _ _ 7 [.ref 74, .int (nI kx1)] [.int 1] (am_S b) (am_u h 73 2 (h 73 2 + 1)) _
      refine wp_if_t rfl (show ¬ (1 : Int32) = 0 from by decide) ?_
      refine wp_run 2 (pc' := 19) (ls' := [.ref 74, .int (nI kx1)]) (st' := [.ref 74, .int (nI kx1)]) rfl ?_
      refine wp_getr 75 rfl rfl rfl ?_
      refine wp_run 1 (pc' := 23) (ls' := [.ref 74, .int (nI kx1)]) (st' := [.int 2, .ref 75, .int (nI kx1)]) rfl ?_
      refine wp_ald (i := 2) (nI n) hm2 rfl rfl rfl (by decide) rfl ?_
      refine wp_icmp_f rfl (show ¬ ((nI kx1) < (nI n)) from mt (nI_ltI (a := kx1) (b := n) (by omega) (by omega)).mp (by omega)) ?_
      refine wp_run 2 (pc' := 30) (ls' := [.ref 74, .int (nI kx1)]) (st' := [.int (-1000000002), .ref 74]) rfl ?_
      refine wp_callV (o := 74) (as := [.int (-1000000002)]) (rest := []) (els := [.ref 74, .int (-1000000002)]) rfl rfl rfl rfl rfl rfl rfl rfl (by omega) ?_
      refine sp_error2 ?_
      show am_wp L xs _ _ _ _ 33 [.ref 74, .int (nI kx1)] [.int (-1000000002)] (am_S b) (am_u (am_u h 73 2 (h 73 2 + 1)) 77 2 ((am_u h 73 2 (h 73 2 + 1)) 77 2 + 1)) _
      refine wp_ret rfl ?_
      exact kk2 _ _ (re_err2 hR)
  · skip
    intro hm1 hm2x
    have hmx := And.intro hm1 hm2x
    show am_wp L xs _ _ _ _ 7 [.ref 0, .int x1] [.int 0] (am_S b) h _
    refine wp_if_f rfl (show ¬ (¬ (0 : Int32) = 0) from by decide) ?_
    refine wp_run 2 (pc' := 12) (ls' := [.ref 0, .int x1]) (st' := [.int 1, .ref 0]) rfl ?_
    refine wp_callV (o := 0) (as := [.int 1]) (rest := []) (els := [.ref 0, .int 1]) rfl rfl rfl rfl rfl rfl rfl rfl (by omega) ?_
    refine sp_refuse1 (by omega) ?_
    show am_wp L xs _ _ _ _ 15 [.ref 0, .int x1] [.int (-1000000001)] (am_S b) (am_u h 73 1 (h 73 1 + 1)) _
    refine wp_ret rfl ?_
    refine kk _ _ _ (fun ms2 Q2 kk2 => ?_)
    refine wp_run 3 (pc' := 4) (ls' := [.ref 74, .int x1]) (st' := [.int 6, .int (-1), .int x1]) rfl ?_
    refine wp_callS (as := [.int x1, .int (-1), .int 6]) (rest := []) (els := [.int x1, .int (-1), .int 6]) rfl rfl rfl rfl rfl rfl rfl rfl (by omega) ?_
    refine sp_m_inm (m := 7) (by omega) (by decide) (fun q => absurd q hmx.1) (fun k hk e => absurd e (hmx.2 k hk)) (fun _ _ => ?_)
    show am_wp L xs _ _ _ _ 7 [.ref 74, .int x1] [.int 0] (am_S b) (am_u h 73 1 (h 73 1 + 1)) _
    refine wp_if_f rfl (show ¬ (¬ (0 : Int32) = 0) from by decide) ?_
    refine wp_run 2 (pc' := 13) (ls' := [.ref 74, .int x1]) (st' := [.int (-1000000001), .ref 74]) rfl ?_
    refine wp_callV (o := 74) (as := [.int (-1000000001)]) (rest := []) (els := [.ref 74, .int (-1000000001)]) rfl rfl rfl rfl rfl rfl rfl rfl (by omega) ?_
    refine sp_error1 ?_
    show am_wp L xs _ _ _ _ 16 [.ref 74, .int x1] [.int (-1000000001)] (am_S b) (am_u (am_u h 73 1 (h 73 1 + 1)) 77 1 ((am_u h 73 1 (h 73 1 + 1)) 77 1 + 1)) _
    refine wp_ret rfl ?_
    exact kk2 _ _ (re_err1 hR)
