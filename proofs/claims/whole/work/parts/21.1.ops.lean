/-! calls tied: sheet -/
def sh_zf (f : Nat → Int32) (i : Nat) : Nat → Int32 := fun j => if j < i then 0 else f j
def sh_zc (f : Nat → Int32) (s i : Nat) : Nat → Int32 := fun j => if 24 * s ≤ j ∧ j < 24 * s + i then 0 else f j
theorem sh_z_0 (h : am_HI) (a : Nat) : am_ur h a (sh_zf (h a) 0) = h := by
  funext b j
  unfold am_ur
  by_cases e : b = a
  · rw [if_pos e, e]
    exact if_neg (by omega)
  · rw [if_neg e]
theorem sh_z_s (h : am_HI) (a i : Nat) : am_u (am_ur h a (sh_zf (h a) i)) a i 0 = am_ur h a (sh_zf (h a) (i + 1)) := by
  funext b j
  unfold am_ur am_u
  by_cases e : b = a
  · subst e
    simp only [if_pos, upd]
    unfold sh_zf
    by_cases e1 : j = i
    · rw [if_pos e1, if_pos (by omega)]
    · rw [if_neg e1]
      by_cases e2 : j < i
      · rw [if_pos e2, if_pos (by omega)]
      · rw [if_neg e2, if_neg (by omega)]
  · simp only [if_neg e]
theorem sh_zc_0 (h : am_HI) (s : Nat) : am_ur h 80 (sh_zc (h 80) s 0) = h := by
  funext b j
  unfold am_ur
  by_cases e : b = 80
  · rw [if_pos e, e]
    exact if_neg (by omega)
  · rw [if_neg e]
theorem sh_zc_s (h : am_HI) (s i : Nat) : am_u (am_ur h 80 (sh_zc (h 80) s i)) 80 (24 * s + i) 0 = am_ur h 80 (sh_zc (h 80) s (i + 1)) := by
  funext b j
  unfold am_ur am_u
  by_cases e : b = 80
  · subst e
    simp only [if_pos, upd]
    unfold sh_zc
    by_cases e1 : j = 24 * s + i
    · rw [if_pos e1, if_pos (by omega)]
    · rw [if_neg e1]
      by_cases e2 : 24 * s ≤ j ∧ j < 24 * s + i
      · rw [if_pos e2, if_pos (by omega)]
      · rw [if_neg e2, if_neg (by omega)]
  · simp only [if_neg e]
theorem re_sh_l {s s2 : Nat} {o r b z c : Nat → Int32} (h : re_sh s o r b z c) (hs : s ≠ s2) (v w : Int32) : re_sh s o r (upd b s2 v) (upd z s2 w) (sh_zc c s2 24) := by
  obtain ⟨l, h1, h2, h3, h4, h5, h6⟩ := h
  have e1 : upd b s2 v s = b s := if_neg hs
  have e2 : upd z s2 w s = z s := if_neg hs
  refine ⟨l, h1, h2, e2.trans h3, h4.trans e1.symm, ?_, fun j hj => ?_⟩
  · rw [e1]; exact h5
  · rw [h6 j hj]
    exact (if_neg (by omega)).symm
theorem re_sh_n {s : Nat} {o r b z c : Nat → Int32} {l : Nat} {v : Int32} (hl : l ≤ 24) (hv : v = 0 ∧ l = 0 ∨ v = 8 ∨ v = 16 ∨ v = 32) : re_sh s (upd (upd o 1 v) 2 (nI l)) (sh_zf r 24) (upd b s v) (upd z s (nI l)) (sh_zc c s 24) := by
  have e1 : upd b s v s = v := if_pos rfl
  refine ⟨l, hl, rfl, if_pos rfl, e1.symm ▸ rfl, ?_, fun j hj => ?_⟩
  · rw [e1]; exact hv
  · exact (if_pos hj).trans (if_pos (by omega)).symm
theorem lp_lay {L : Nat} {xs : Nat → Int32} {d ms : Nat} {h : am_HI} {sh : am_SH} {Q : am_Q} {o : Nat} {v w : Int32} (ho : am_objb sh o 5 = true) (hr : am_rf sh o 0 = o + 1 + 1) (hz : sh[o + 1]? = some (20, 24, [])) (kk : Q none sh (am_ur h (o + 1) (sh_zf (h (o + 1)) 24))) :
    ∀ (m i : Nat), i + m = 24 → am_wp L xs d 0 ms 112 12 [.ref o, .int v, .int w, .int (nI i)] [] sh (am_ur h (o + 1) (sh_zf (h (o + 1)) i)) Q := by
  intro m
  induction m with
  | zero =>
    intro i hi
    refine wp_run 2 (pc' := 15) (ls' := [.ref o, .int v, .int w, .int (nI i)]) (st' := [.int 24, .int (nI i)]) rfl ?_
    refine wp_icmp_t rfl (show 24 ≤ (nI i) from (nI_leI (a := 24) (b := i) (by omega) (by omega)).mpr (by omega)) ?_
    refine wp_retv rfl ?_
    have e9 : i = 24 := by omega
    subst e9
    exact kk
  | succ m ih =>
    intro i hi
    refine wp_run 2 (pc' := 15) (ls' := [.ref o, .int v, .int w, .int (nI i)]) (st' := [.int 24, .int (nI i)]) rfl ?_
    refine wp_icmp_f rfl (show ¬ (24 ≤ (nI i)) from mt (nI_leI (a := 24) (b := i) (by omega) (by omega)).mp (by omega)) ?_
    refine wp_run 1 (pc' := 19) (ls' := [.ref o, .int v, .int w, .int (nI i)]) (st' := [.ref o]) rfl ?_
    refine wp_getr (o + 1) rfl ho hr ?_
    refine wp_run 2 (pc' := 24) (ls' := [.ref o, .int v, .int w, .int (nI i)]) (st' := [.int 0, .int (nI i), .ref (o + 1)]) rfl ?_
    refine wp_ast rfl hz rfl (by omega) rfl ?_
    refine wp_run 2 (pc' := 12) (ls' := [.ref o, .int v, .int w, .int ((nI i) + 1)]) (st' := []) rfl ?_
    rw [show (((nI i) + 1) : Int32) = (nI (i + 1)) from nI_add i 1]
    rw [sh_z_s]
    exact ih (i + 1) (by omega)
theorem sp_lay {L : Nat} {xs : Nat → Int32} {d ms : Nat} {h : am_HI} {sh : am_SH} {Q : am_Q} {o : Nat} {v w : Int32} (ho : am_objb sh o 5 = true) (hr : am_rf sh o 0 = o + 1 + 1) (hz : sh[o + 1]? = some (20, 24, [])) (kk : Q none sh (am_ur (am_u (am_u h o 1 v) o 2 w) (o + 1) (sh_zf ((am_u (am_u h o 1 v) o 2 w) (o + 1)) 24))) :
    am_wp L xs d 0 ms 112 0 [.ref o, .int v, .int w, am_du] [] sh h Q := by
  refine wp_run 2 (pc' := 2) (ls' := [.ref o, .int v, .int w, am_du]) (st' := [.int v, .ref o]) rfl ?_
  refine wp_puti rfl ho ?_
  refine wp_run 2 (pc' := 7) (ls' := [.ref o, .int v, .int w, am_du]) (st' := [.int w, .ref o]) rfl ?_
  refine wp_puti rfl ho ?_
  refine wp_run 2 (pc' := 12) (ls' := [.ref o, .int v, .int w, .int 0]) (st' := []) rfl ?_
  have hp := lp_lay (L := L) (xs := xs) (d := d) (ms := ms) (v := v) (w := w) ho hr hz kk 24 0 (by omega)
  rw [sh_z_0] at hp
  exact hp
theorem lp_sheet {L : Nat} {xs : Nat → Int32} {d ms b : Nat} {h : am_HI} {Q : am_Q} {s : Nat} {b2 b3 : Int32} (hs : s < 4) (kk : Q (some (.int 1)) (am_S b) (am_ur h 80 (sh_zc (h 80) s 24))) :
    ∀ (m i : Nat), i + m = 24 → am_wp L xs d 0 ms 210 93 [.ref 74, .int (nI s), .int b2, .int b3, .int (nI i)] [] (am_S b) (am_ur h 80 (sh_zc (h 80) s i)) Q := by
  intro m
  induction m with
  | zero =>
    intro i hi
    refine wp_run 2 (pc' := 97) (ls' := [.ref 74, .int (nI s), .int b2, .int b3, .int (nI i)]) (st' := [.int 24, .int (nI i)]) rfl ?_
    refine wp_icmp_t rfl (show 24 ≤ (nI i) from (nI_leI (a := 24) (b := i) (by omega) (by omega)).mpr (by omega)) ?_
    refine wp_run 1 (pc' := 120) (ls' := [.ref 74, .int (nI s), .int b2, .int b3, .int (nI i)]) (st' := [.int 1]) rfl ?_
    refine wp_ret rfl ?_
    have e9 : i = 24 := by omega
    subst e9
    exact kk
  | succ m ih =>
    intro i hi
    refine wp_run 2 (pc' := 97) (ls' := [.ref 74, .int (nI s), .int b2, .int b3, .int (nI i)]) (st' := [.int 24, .int (nI i)]) rfl ?_
    refine wp_icmp_f rfl (show ¬ (24 ≤ (nI i)) from mt (nI_leI (a := 24) (b := i) (by omega) (by omega)).mp (by omega)) ?_
    refine wp_run 1 (pc' := 101) (ls' := [.ref 74, .int (nI s), .int b2, .int b3, .int (nI i)]) (st' := [.ref 74]) rfl ?_
    refine wp_getr 80 rfl rfl rfl ?_
    refine wp_run 6 (pc' := 112) (ls' := [.ref 74, .int (nI s), .int b2, .int b3, .int (nI i)]) (st' := [.int 0, .int ((24 * (nI s)) + (nI i)), .ref 80]) rfl ?_
    rw [show ((24 * (nI s)) : Int32) = (nI (24 * s)) from pk_mul 24 s]
    rw [show (((nI (24 * s)) + (nI i)) : Int32) = (nI ((24 * s) + i)) from nI_add (24 * s) i]
    refine wp_ast rfl rfl rfl (by omega) rfl ?_
    refine wp_run 2 (pc' := 93) (ls' := [.ref 74, .int (nI s), .int b2, .int b3, .int ((nI i) + 1)]) (st' := []) rfl ?_
    rw [show (((nI i) + 1) : Int32) = (nI (i + 1)) from nI_add i 1]
    rw [sh_zc_s]
    exact ih (i + 1) (by omega)
theorem op_sheet {L : Nat} {xs : Nat → Int32} {d ms b N : Nat} {h : am_HI} {Q : am_Q} {x1 : Int32} {x2 : Int32} {x3 : Int32} (hd : 30 ≤ d) (hR : am_Rel N h) (hN : N < 100000)
    (kk : ∀ v b1 h1, (∀ ms2 Q2, (∀ b2 h2, am_Rel (N + 1) h2 → Q2 (some (.int v)) (am_S b2) h2) → am_wp L xs d 0 ms2 210 0 [.ref 74, .int x1, .int x2, .int x3, am_du] [] (am_S b1) h1 Q2) → Q (some (.int v)) (am_S b1) h1) :
    am_wp L xs d 0 ms 111 0 [.ref 0, .int x1, .int x2, .int x3, am_du] [] (am_S b) h Q := by
  obtain ⟨⟨n, c, t, tp, wt, s0, s1, p0, p1, H⟩, hI, hE, hS0, hS1, hS2, hS3, hT⟩ := id hR
  have hn := H.1.1
  have hm2 := H.1.2.1
  have hn7 := H.1.2.2
  have hc := H.2.1.1
  have hm3 := H.2.1.2.1
  have hc7 := H.2.1.2.2
  have ht := H.2.2.1.1
  have hm0 := H.2.2.1.2.1
  have ht9 := H.2.2.1.2.2
  have HS := re_hs H
  have HM := re_ms H
  refine wp_run 1 (pc' := 1) (ls' := [.ref 0, .int x1, .int x2, .int x3, am_du]) (st' := [.int x2]) rfl ?_
  refine wp_if rfl (fun (cq1 : x2 = 0) => ?_) (fun (cq1 : ¬ (x2 = 0)) => ?_)
  · skip
    subst cq1
    refine wp_run 4 (pc' := 30) (ls' := [.ref 0, .int x1, .int 0, .int x3, .int 1]) (st' := [.int x1]) rfl ?_
    refine wp_callS (as := [.int x1]) (rest := []) (els := [.int x1]) rfl rfl rfl rfl rfl rfl rfl rfl (by omega) ?_
    refine sp_x_isSheet (by omega) (pu_four ?_ ?_ ?_ ?_) ?_
    · skip
      intro ex1
      subst ex1
      show am_wp L xs _ _ _ _ 33 [.ref 0, .int 0, .int 0, .int x3, .int 1] [.int 1] (am_S b) h _
      refine wp_if_f rfl (show ¬ ((1 : Int32) = 0) from by decide) ?_
      refine wp_run 1 (pc' := 38) (ls' := [.ref 0, .int 0, .int 0, .int x3, .int 1]) (st' := [.int 1]) rfl ?_
      refine wp_if_t rfl (show ¬ (1 : Int32) = 0 from by decide) ?_
      refine wp_run 1 (pc' := 48) (ls' := [.ref 0, .int 0, .int 0, .int x3, .int 1]) (st' := [.int 0]) rfl ?_
      refine wp_if_f rfl (show ¬ (¬ (0 : Int32) = 0) from by decide) ?_
      refine wp_run 1 (pc' := 52) (ls' := [.ref 0, .int 0, .int 0, .int x3, .int 1]) (st' := [.ref 0]) rfl ?_
      refine wp_getr 64 rfl rfl rfl ?_
      refine wp_run 1 (pc' := 56) (ls' := [.ref 0, .int 0, .int 0, .int x3, .int 1]) (st' := [.int 0, .ref 64]) rfl ?_
      refine wp_aald (r := 65) rfl rfl (Or.inr rfl) rfl (by decide) rfl rfl ?_
      refine wp_run 2 (pc' := 59) (ls' := [.ref 0, .int 0, .int 0, .int x3, .int 1]) (st' := [.int 0, .int 0, .ref 65]) rfl ?_
      refine wp_callV (o := 65) (as := [.int 0, .int 0]) (rest := []) (els := [.ref 65, .int 0, .int 0, am_du]) rfl rfl rfl rfl rfl rfl rfl rfl (by omega) ?_
      refine sp_lay (o := 65) rfl rfl rfl ?_
      show am_wp L xs _ _ _ _ 62 [.ref 0, .int 0, .int 0, .int x3, .int 1] [] (am_S b) (am_ur (am_u (am_u h 65 1 0) 65 2 0) 66 (sh_zf ((am_u (am_u h 65 1 0) 65 2 0) 66) 24)) _
      refine wp_run 1 (pc' := 63) (ls' := [.ref 0, .int 0, .int 0, .int x3, .int 1]) (st' := [.int 1]) rfl ?_
      refine wp_ret rfl ?_
      refine kk _ _ _ (fun ms2 Q2 kk2 => ?_)
      refine wp_run 1 (pc' := 1) (ls' := [.ref 74, .int 0, .int 0, .int x3, am_du]) (st' := [.int 0]) rfl ?_
      refine wp_callS (as := [.int 0]) (rest := []) (els := [.int 0]) rfl rfl rfl rfl rfl rfl rfl rfl (by omega) ?_
      refine sp_m_isSheet (by omega) (fun _ _ _ => ?_) (fun q => absurd rfl (q 0 (by omega)))
      show am_wp L xs _ _ _ _ 4 [.ref 74, .int 0, .int 0, .int x3, am_du] [.int 1] (am_S b) (am_ur (am_u (am_u h 65 1 0) 65 2 0) 66 (sh_zf ((am_u (am_u h 65 1 0) 65 2 0) 66) 24)) _
      refine wp_if_f rfl (show ¬ ((1 : Int32) = 0) from by decide) ?_
      refine wp_run 1 (pc' := 8) (ls' := [.ref 74, .int 0, .int 0, .int x3, am_du]) (st' := [.int 0]) rfl ?_
      refine wp_if_t rfl (show (0 : Int32) = 0 from by decide) ?_
      refine wp_run 1 (pc' := 37) (ls' := [.ref 74, .int 0, .int 0, .int x3, am_du]) (st' := [.int 0]) rfl ?_
      refine wp_if_t rfl (show (0 : Int32) ≤ 0 from by decide) ?_
      refine wp_run 1 (pc' := 52) (ls' := [.ref 74, .int 0, .int 0, .int x3, am_du]) (st' := [.int 0]) rfl ?_
      refine wp_if_t rfl (show (0 : Int32) ≤ 0 from by decide) ?_
      refine wp_run 1 (pc' := 69) (ls' := [.ref 74, .int 0, .int 0, .int x3, am_du]) (st' := [.ref 74]) rfl ?_
      refine wp_getr 78 rfl rfl rfl ?_
      refine wp_run 2 (pc' := 74) (ls' := [.ref 74, .int 0, .int 0, .int x3, am_du]) (st' := [.int 0, .int 0, .ref 78]) rfl ?_
      refine wp_ast rfl rfl rfl (by decide) rfl ?_
      refine wp_run 1 (pc' := 76) (ls' := [.ref 74, .int 0, .int 0, .int x3, am_du]) (st' := [.ref 74]) rfl ?_
      refine wp_getr 79 rfl rfl rfl ?_
      refine wp_run 2 (pc' := 81) (ls' := [.ref 74, .int 0, .int 0, .int x3, am_du]) (st' := [.int 0, .int 0, .ref 79]) rfl ?_
      refine wp_if_f rfl (show ¬ (¬ (0 : Int32) = 0) from by decide) ?_
      refine wp_run 2 (pc' := 89) (ls' := [.ref 74, .int 0, .int 0, .int x3, am_du]) (st' := [.int 0, .int 0, .ref 79]) rfl ?_
      refine wp_ast rfl rfl rfl (by decide) rfl ?_
      refine wp_run 2 (pc' := 93) (ls' := [.ref 74, .int 0, .int 0, .int x3, .int 0]) (st' := []) rfl ?_
      have hp := lp_sheet (L := L) (xs := xs) (d := d) (ms := ms2) (b := b) (h := (am_u (am_u (am_ur (am_u (am_u h 65 1 0) 65 2 0) 66 (sh_zf ((am_u (am_u h 65 1 0) 65 2 0) 66) 24)) 78 0 0) 79 0 0)) (s := 0) (b2 := 0) (b3 := x3) (Q := Q2) (by omega) ?_ 24 0 (by omega)
      · rw [sh_zc_0] at hp; exact hp
      · exact kk2 _ _ ⟨⟨n, c, t, tp, wt, s0, s1, p0, p1, H⟩, re_im_s hI, hE, (re_sh_n (l := 0) (v := 0) (by omega) (Or.inl ⟨rfl, rfl⟩)), (re_sh_l hS1 (s2 := 0) (by omega) 0 0), (re_sh_l hS2 (s2 := 0) (by omega) 0 0), (re_sh_l hS3 (s2 := 0) (by omega) 0 0), hT⟩
    · skip
      intro ex1
      subst ex1
      show am_wp L xs _ _ _ _ 33 [.ref 0, .int 1, .int 0, .int x3, .int 1] [.int 1] (am_S b) h _
      refine wp_if_f rfl (show ¬ ((1 : Int32) = 0) from by decide) ?_
      refine wp_run 1 (pc' := 38) (ls' := [.ref 0, .int 1, .int 0, .int x3, .int 1]) (st' := [.int 1]) rfl ?_
      refine wp_if_t rfl (show ¬ (1 : Int32) = 0 from by decide) ?_
      refine wp_run 1 (pc' := 48) (ls' := [.ref 0, .int 1, .int 0, .int x3, .int 1]) (st' := [.int 0]) rfl ?_
      refine wp_if_f rfl (show ¬ (¬ (0 : Int32) = 0) from by decide) ?_
      refine wp_run 1 (pc' := 52) (ls' := [.ref 0, .int 1, .int 0, .int x3, .int 1]) (st' := [.ref 0]) rfl ?_
      refine wp_getr 64 rfl rfl rfl ?_
      refine wp_run 1 (pc' := 56) (ls' := [.ref 0, .int 1, .int 0, .int x3, .int 1]) (st' := [.int 1, .ref 64]) rfl ?_
      refine wp_aald (r := 67) rfl rfl (Or.inr rfl) rfl (by decide) rfl rfl ?_
      refine wp_run 2 (pc' := 59) (ls' := [.ref 0, .int 1, .int 0, .int x3, .int 1]) (st' := [.int 0, .int 0, .ref 67]) rfl ?_
      refine wp_callV (o := 67) (as := [.int 0, .int 0]) (rest := []) (els := [.ref 67, .int 0, .int 0, am_du]) rfl rfl rfl rfl rfl rfl rfl rfl (by omega) ?_
      refine sp_lay (o := 67) rfl rfl rfl ?_
      show am_wp L xs _ _ _ _ 62 [.ref 0, .int 1, .int 0, .int x3, .int 1] [] (am_S b) (am_ur (am_u (am_u h 67 1 0) 67 2 0) 68 (sh_zf ((am_u (am_u h 67 1 0) 67 2 0) 68) 24)) _
      refine wp_run 1 (pc' := 63) (ls' := [.ref 0, .int 1, .int 0, .int x3, .int 1]) (st' := [.int 1]) rfl ?_
      refine wp_ret rfl ?_
      refine kk _ _ _ (fun ms2 Q2 kk2 => ?_)
      refine wp_run 1 (pc' := 1) (ls' := [.ref 74, .int 1, .int 0, .int x3, am_du]) (st' := [.int 1]) rfl ?_
      refine wp_callS (as := [.int 1]) (rest := []) (els := [.int 1]) rfl rfl rfl rfl rfl rfl rfl rfl (by omega) ?_
      refine sp_m_isSheet (by omega) (fun _ _ _ => ?_) (fun q => absurd rfl (q 1 (by omega)))
      show am_wp L xs _ _ _ _ 4 [.ref 74, .int 1, .int 0, .int x3, am_du] [.int 1] (am_S b) (am_ur (am_u (am_u h 67 1 0) 67 2 0) 68 (sh_zf ((am_u (am_u h 67 1 0) 67 2 0) 68) 24)) _
      refine wp_if_f rfl (show ¬ ((1 : Int32) = 0) from by decide) ?_
      refine wp_run 1 (pc' := 8) (ls' := [.ref 74, .int 1, .int 0, .int x3, am_du]) (st' := [.int 0]) rfl ?_
      refine wp_if_t rfl (show (0 : Int32) = 0 from by decide) ?_
      refine wp_run 1 (pc' := 37) (ls' := [.ref 74, .int 1, .int 0, .int x3, am_du]) (st' := [.int 0]) rfl ?_
      refine wp_if_t rfl (show (0 : Int32) ≤ 0 from by decide) ?_
      refine wp_run 1 (pc' := 52) (ls' := [.ref 74, .int 1, .int 0, .int x3, am_du]) (st' := [.int 0]) rfl ?_
      refine wp_if_t rfl (show (0 : Int32) ≤ 0 from by decide) ?_
      refine wp_run 1 (pc' := 69) (ls' := [.ref 74, .int 1, .int 0, .int x3, am_du]) (st' := [.ref 74]) rfl ?_
      refine wp_getr 78 rfl rfl rfl ?_
      refine wp_run 2 (pc' := 74) (ls' := [.ref 74, .int 1, .int 0, .int x3, am_du]) (st' := [.int 0, .int 1, .ref 78]) rfl ?_
      refine wp_ast rfl rfl rfl (by decide) rfl ?_
      refine wp_run 1 (pc' := 76) (ls' := [.ref 74, .int 1, .int 0, .int x3, am_du]) (st' := [.ref 74]) rfl ?_
      refine wp_getr 79 rfl rfl rfl ?_
      refine wp_run 2 (pc' := 81) (ls' := [.ref 74, .int 1, .int 0, .int x3, am_du]) (st' := [.int 0, .int 1, .ref 79]) rfl ?_
      refine wp_if_f rfl (show ¬ (¬ (0 : Int32) = 0) from by decide) ?_
      refine wp_run 2 (pc' := 89) (ls' := [.ref 74, .int 1, .int 0, .int x3, am_du]) (st' := [.int 0, .int 1, .ref 79]) rfl ?_
      refine wp_ast rfl rfl rfl (by decide) rfl ?_
      refine wp_run 2 (pc' := 93) (ls' := [.ref 74, .int 1, .int 0, .int x3, .int 0]) (st' := []) rfl ?_
      have hp := lp_sheet (L := L) (xs := xs) (d := d) (ms := ms2) (b := b) (h := (am_u (am_u (am_ur (am_u (am_u h 67 1 0) 67 2 0) 68 (sh_zf ((am_u (am_u h 67 1 0) 67 2 0) 68) 24)) 78 1 0) 79 1 0)) (s := 1) (b2 := 0) (b3 := x3) (Q := Q2) (by omega) ?_ 24 0 (by omega)
      · rw [sh_zc_0] at hp; exact hp
      · exact kk2 _ _ ⟨⟨n, c, t, tp, wt, s0, s1, p0, p1, H⟩, re_im_s hI, hE, (re_sh_l hS0 (s2 := 1) (by omega) 0 0), (re_sh_n (l := 0) (v := 0) (by omega) (Or.inl ⟨rfl, rfl⟩)), (re_sh_l hS2 (s2 := 1) (by omega) 0 0), (re_sh_l hS3 (s2 := 1) (by omega) 0 0), hT⟩
    · skip
      intro ex1
      subst ex1
      show am_wp L xs _ _ _ _ 33 [.ref 0, .int 2, .int 0, .int x3, .int 1] [.int 1] (am_S b) h _
      refine wp_if_f rfl (show ¬ ((1 : Int32) = 0) from by decide) ?_
      refine wp_run 1 (pc' := 38) (ls' := [.ref 0, .int 2, .int 0, .int x3, .int 1]) (st' := [.int 1]) rfl ?_
      refine wp_if_t rfl (show ¬ (1 : Int32) = 0 from by decide) ?_
      refine wp_run 1 (pc' := 48) (ls' := [.ref 0, .int 2, .int 0, .int x3, .int 1]) (st' := [.int 0]) rfl ?_
      refine wp_if_f rfl (show ¬ (¬ (0 : Int32) = 0) from by decide) ?_
      refine wp_run 1 (pc' := 52) (ls' := [.ref 0, .int 2, .int 0, .int x3, .int 1]) (st' := [.ref 0]) rfl ?_
      refine wp_getr 64 rfl rfl rfl ?_
      refine wp_run 1 (pc' := 56) (ls' := [.ref 0, .int 2, .int 0, .int x3, .int 1]) (st' := [.int 2, .ref 64]) rfl ?_
      refine wp_aald (r := 69) rfl rfl (Or.inr rfl) rfl (by decide) rfl rfl ?_
      refine wp_run 2 (pc' := 59) (ls' := [.ref 0, .int 2, .int 0, .int x3, .int 1]) (st' := [.int 0, .int 0, .ref 69]) rfl ?_
      refine wp_callV (o := 69) (as := [.int 0, .int 0]) (rest := []) (els := [.ref 69, .int 0, .int 0, am_du]) rfl rfl rfl rfl rfl rfl rfl rfl (by omega) ?_
      refine sp_lay (o := 69) rfl rfl rfl ?_
      show am_wp L xs _ _ _ _ 62 [.ref 0, .int 2, .int 0, .int x3, .int 1] [] (am_S b) (am_ur (am_u (am_u h 69 1 0) 69 2 0) 70 (sh_zf ((am_u (am_u h 69 1 0) 69 2 0) 70) 24)) _
      refine wp_run 1 (pc' := 63) (ls' := [.ref 0, .int 2, .int 0, .int x3, .int 1]) (st' := [.int 1]) rfl ?_
      refine wp_ret rfl ?_
      refine kk _ _ _ (fun ms2 Q2 kk2 => ?_)
      refine wp_run 1 (pc' := 1) (ls' := [.ref 74, .int 2, .int 0, .int x3, am_du]) (st' := [.int 2]) rfl ?_
      refine wp_callS (as := [.int 2]) (rest := []) (els := [.int 2]) rfl rfl rfl rfl rfl rfl rfl rfl (by omega) ?_
      refine sp_m_isSheet (by omega) (fun _ _ _ => ?_) (fun q => absurd rfl (q 2 (by omega)))
      show am_wp L xs _ _ _ _ 4 [.ref 74, .int 2, .int 0, .int x3, am_du] [.int 1] (am_S b) (am_ur (am_u (am_u h 69 1 0) 69 2 0) 70 (sh_zf ((am_u (am_u h 69 1 0) 69 2 0) 70) 24)) _
      refine wp_if_f rfl (show ¬ ((1 : Int32) = 0) from by decide) ?_
      refine wp_run 1 (pc' := 8) (ls' := [.ref 74, .int 2, .int 0, .int x3, am_du]) (st' := [.int 0]) rfl ?_
      refine wp_if_t rfl (show (0 : Int32) = 0 from by decide) ?_
      refine wp_run 1 (pc' := 37) (ls' := [.ref 74, .int 2, .int 0, .int x3, am_du]) (st' := [.int 0]) rfl ?_
      refine wp_if_t rfl (show (0 : Int32) ≤ 0 from by decide) ?_
      refine wp_run 1 (pc' := 52) (ls' := [.ref 74, .int 2, .int 0, .int x3, am_du]) (st' := [.int 0]) rfl ?_
      refine wp_if_t rfl (show (0 : Int32) ≤ 0 from by decide) ?_
      refine wp_run 1 (pc' := 69) (ls' := [.ref 74, .int 2, .int 0, .int x3, am_du]) (st' := [.ref 74]) rfl ?_
      refine wp_getr 78 rfl rfl rfl ?_
      refine wp_run 2 (pc' := 74) (ls' := [.ref 74, .int 2, .int 0, .int x3, am_du]) (st' := [.int 0, .int 2, .ref 78]) rfl ?_
      refine wp_ast rfl rfl rfl (by decide) rfl ?_
      refine wp_run 1 (pc' := 76) (ls' := [.ref 74, .int 2, .int 0, .int x3, am_du]) (st' := [.ref 74]) rfl ?_
      refine wp_getr 79 rfl rfl rfl ?_
      refine wp_run 2 (pc' := 81) (ls' := [.ref 74, .int 2, .int 0, .int x3, am_du]) (st' := [.int 0, .int 2, .ref 79]) rfl ?_
      refine wp_if_f rfl (show ¬ (¬ (0 : Int32) = 0) from by decide) ?_
      refine wp_run 2 (pc' := 89) (ls' := [.ref 74, .int 2, .int 0, .int x3, am_du]) (st' := [.int 0, .int 2, .ref 79]) rfl ?_
      refine wp_ast rfl rfl rfl (by decide) rfl ?_
      refine wp_run 2 (pc' := 93) (ls' := [.ref 74, .int 2, .int 0, .int x3, .int 0]) (st' := []) rfl ?_
      have hp := lp_sheet (L := L) (xs := xs) (d := d) (ms := ms2) (b := b) (h := (am_u (am_u (am_ur (am_u (am_u h 69 1 0) 69 2 0) 70 (sh_zf ((am_u (am_u h 69 1 0) 69 2 0) 70) 24)) 78 2 0) 79 2 0)) (s := 2) (b2 := 0) (b3 := x3) (Q := Q2) (by omega) ?_ 24 0 (by omega)
      · rw [sh_zc_0] at hp; exact hp
      · exact kk2 _ _ ⟨⟨n, c, t, tp, wt, s0, s1, p0, p1, H⟩, re_im_s hI, hE, (re_sh_l hS0 (s2 := 2) (by omega) 0 0), (re_sh_l hS1 (s2 := 2) (by omega) 0 0), (re_sh_n (l := 0) (v := 0) (by omega) (Or.inl ⟨rfl, rfl⟩)), (re_sh_l hS3 (s2 := 2) (by omega) 0 0), hT⟩
    · skip
      intro ex1
      subst ex1
      show am_wp L xs _ _ _ _ 33 [.ref 0, .int 3, .int 0, .int x3, .int 1] [.int 1] (am_S b) h _
      refine wp_if_f rfl (show ¬ ((1 : Int32) = 0) from by decide) ?_
      refine wp_run 1 (pc' := 38) (ls' := [.ref 0, .int 3, .int 0, .int x3, .int 1]) (st' := [.int 1]) rfl ?_
      refine wp_if_t rfl (show ¬ (1 : Int32) = 0 from by decide) ?_
      refine wp_run 1 (pc' := 48) (ls' := [.ref 0, .int 3, .int 0, .int x3, .int 1]) (st' := [.int 0]) rfl ?_
      refine wp_if_f rfl (show ¬ (¬ (0 : Int32) = 0) from by decide) ?_
      refine wp_run 1 (pc' := 52) (ls' := [.ref 0, .int 3, .int 0, .int x3, .int 1]) (st' := [.ref 0]) rfl ?_
      refine wp_getr 64 rfl rfl rfl ?_
      refine wp_run 1 (pc' := 56) (ls' := [.ref 0, .int 3, .int 0, .int x3, .int 1]) (st' := [.int 3, .ref 64]) rfl ?_
      refine wp_aald (r := 71) rfl rfl (Or.inr rfl) rfl (by decide) rfl rfl ?_
      refine wp_run 2 (pc' := 59) (ls' := [.ref 0, .int 3, .int 0, .int x3, .int 1]) (st' := [.int 0, .int 0, .ref 71]) rfl ?_
      refine wp_callV (o := 71) (as := [.int 0, .int 0]) (rest := []) (els := [.ref 71, .int 0, .int 0, am_du]) rfl rfl rfl rfl rfl rfl rfl rfl (by omega) ?_
      refine sp_lay (o := 71) rfl rfl rfl ?_
      show am_wp L xs _ _ _ _ 62 [.ref 0, .int 3, .int 0, .int x3, .int 1] [] (am_S b) (am_ur (am_u (am_u h 71 1 0) 71 2 0) 72 (sh_zf ((am_u (am_u h 71 1 0) 71 2 0) 72) 24)) _
      refine wp_run 1 (pc' := 63) (ls' := [.ref 0, .int 3, .int 0, .int x3, .int 1]) (st' := [.int 1]) rfl ?_
      refine wp_ret rfl ?_
      refine kk _ _ _ (fun ms2 Q2 kk2 => ?_)
      refine wp_run 1 (pc' := 1) (ls' := [.ref 74, .int 3, .int 0, .int x3, am_du]) (st' := [.int 3]) rfl ?_
      refine wp_callS (as := [.int 3]) (rest := []) (els := [.int 3]) rfl rfl rfl rfl rfl rfl rfl rfl (by omega) ?_
      refine sp_m_isSheet (by omega) (fun _ _ _ => ?_) (fun q => absurd rfl (q 3 (by omega)))
      show am_wp L xs _ _ _ _ 4 [.ref 74, .int 3, .int 0, .int x3, am_du] [.int 1] (am_S b) (am_ur (am_u (am_u h 71 1 0) 71 2 0) 72 (sh_zf ((am_u (am_u h 71 1 0) 71 2 0) 72) 24)) _
      refine wp_if_f rfl (show ¬ ((1 : Int32) = 0) from by decide) ?_
      refine wp_run 1 (pc' := 8) (ls' := [.ref 74, .int 3, .int 0, .int x3, am_du]) (st' := [.int 0]) rfl ?_
      refine wp_if_t rfl (show (0 : Int32) = 0 from by decide) ?_
      refine wp_run 1 (pc' := 37) (ls' := [.ref 74, .int 3, .int 0, .int x3, am_du]) (st' := [.int 0]) rfl ?_
      refine wp_if_t rfl (show (0 : Int32) ≤ 0 from by decide) ?_
      refine wp_run 1 (pc' := 52) (ls' := [.ref 74, .int 3, .int 0, .int x3, am_du]) (st' := [.int 0]) rfl ?_
      refine wp_if_t rfl (show (0 : Int32) ≤ 0 from by decide) ?_
      refine wp_run 1 (pc' := 69) (ls' := [.ref 74, .int 3, .int 0, .int x3, am_du]) (st' := [.ref 74]) rfl ?_
      refine wp_getr 78 rfl rfl rfl ?_
      refine wp_run 2 (pc' := 74) (ls' := [.ref 74, .int 3, .int 0, .int x3, am_du]) (st' := [.int 0, .int 3, .ref 78]) rfl ?_
      refine wp_ast rfl rfl rfl (by decide) rfl ?_
      refine wp_run 1 (pc' := 76) (ls' := [.ref 74, .int 3, .int 0, .int x3, am_du]) (st' := [.ref 74]) rfl ?_
      refine wp_getr 79 rfl rfl rfl ?_
      refine wp_run 2 (pc' := 81) (ls' := [.ref 74, .int 3, .int 0, .int x3, am_du]) (st' := [.int 0, .int 3, .ref 79]) rfl ?_
      refine wp_if_f rfl (show ¬ (¬ (0 : Int32) = 0) from by decide) ?_
      refine wp_run 2 (pc' := 89) (ls' := [.ref 74, .int 3, .int 0, .int x3, am_du]) (st' := [.int 0, .int 3, .ref 79]) rfl ?_
      refine wp_ast rfl rfl rfl (by decide) rfl ?_
      refine wp_run 2 (pc' := 93) (ls' := [.ref 74, .int 3, .int 0, .int x3, .int 0]) (st' := []) rfl ?_
      have hp := lp_sheet (L := L) (xs := xs) (d := d) (ms := ms2) (b := b) (h := (am_u (am_u (am_ur (am_u (am_u h 71 1 0) 71 2 0) 72 (sh_zf ((am_u (am_u h 71 1 0) 71 2 0) 72) 24)) 78 3 0) 79 3 0)) (s := 3) (b2 := 0) (b3 := x3) (Q := Q2) (by omega) ?_ 24 0 (by omega)
      · rw [sh_zc_0] at hp; exact hp
      · exact kk2 _ _ ⟨⟨n, c, t, tp, wt, s0, s1, p0, p1, H⟩, re_im_s hI, hE, (re_sh_l hS0 (s2 := 3) (by omega) 0 0), (re_sh_l hS1 (s2 := 3) (by omega) 0 0), (re_sh_l hS2 (s2 := 3) (by omega) 0 0), (re_sh_n (l := 0) (v := 0) (by omega) (Or.inl ⟨rfl, rfl⟩)), hT⟩
    · skip
      intro hnx1
      show am_wp L xs _ _ _ _ 33 [.ref 0, .int x1, .int 0, .int x3, .int 1] [.int 0] (am_S b) h _
      refine wp_if_t rfl (show (0 : Int32) = 0 from by decide) ?_
      refine wp_run 2 (pc' := 43) (ls' := [.ref 0, .int x1, .int 0, .int x3, .int 1]) (st' := [.int 1, .ref 0]) rfl ?_
      refine wp_callV (o := 0) (as := [.int 1]) (rest := []) (els := [.ref 0, .int 1]) rfl rfl rfl rfl rfl rfl rfl rfl (by omega) ?_
      refine sp_refuse1 (by omega) ?_
      show am_wp L xs _ _ _ _ 46 [.ref 0, .int x1, .int 0, .int x3, .int 1] [.int (-1000000001)] (am_S b) (am_u h 73 1 (h 73 1 + 1)) _
      refine wp_ret rfl ?_
      refine kk _ _ _ (fun ms2 Q2 kk2 => ?_)
      refine wp_run 1 (pc' := 1) (ls' := [.ref 74, .int x1, .int 0, .int x3, am_du]) (st' := [.int x1]) rfl ?_
      refine wp_callS (as := [.int x1]) (rest := []) (els := [.int x1]) rfl rfl rfl rfl rfl rfl rfl rfl (by omega) ?_
      refine sp_m_isSheet (by omega) (fun k hk e => absurd e (hnx1 k hk)) (fun _ => ?_)
      show am_wp L xs _ _ _ _ 4 [.ref 74, .int x1, .int 0, .int x3, am_du] [.int 0] (am_S b) (am_u h 73 1 (h 73 1 + 1)) _
      refine wp_if_t rfl (show (0 : Int32) = 0 from by decide) ?_
      refine wp_run 2 (pc' := 32) (ls' := [.ref 74, .int x1, .int 0, .int x3, am_du]) (st' := [.int (-1000000001), .ref 74]) rfl ?_
      refine wp_callV (o := 74) (as := [.int (-1000000001)]) (rest := []) (els := [.ref 74, .int (-1000000001)]) rfl rfl rfl rfl rfl rfl rfl rfl (by omega) ?_
      refine sp_error1 ?_
      show am_wp L xs _ _ _ _ 35 [.ref 74, .int x1, .int 0, .int x3, am_du] [.int (-1000000001)] (am_S b) (am_u (am_u h 73 1 (h 73 1 + 1)) 77 1 ((am_u h 73 1 (h 73 1 + 1)) 77 1 + 1)) _
      refine wp_ret rfl ?_
      exact kk2 _ _ (re_err1 hR)
  · skip
    refine wp_run 2 (pc' := 7) (ls' := [.ref 0, .int x1, .int x2, .int x3, am_du]) (st' := [.int 8, .int x2]) rfl ?_
    refine wp_icmp rfl (fun (cq7 : x2 = 8) => ?_) (fun (cq7 : ¬ (x2 = 8)) => ?_)
    · skip
      subst cq7
      refine wp_run 4 (pc' := 30) (ls' := [.ref 0, .int x1, .int 8, .int x3, .int 1]) (st' := [.int x1]) rfl ?_
      refine wp_callS (as := [.int x1]) (rest := []) (els := [.int x1]) rfl rfl rfl rfl rfl rfl rfl rfl (by omega) ?_
      refine sp_x_isSheet (by omega) (pu_four ?_ ?_ ?_ ?_) ?_
      · skip
        intro ex1
        subst ex1
        show am_wp L xs _ _ _ _ 33 [.ref 0, .int 0, .int 8, .int x3, .int 1] [.int 1] (am_S b) h _
        refine wp_if_f rfl (show ¬ ((1 : Int32) = 0) from by decide) ?_
        refine wp_run 1 (pc' := 38) (ls' := [.ref 0, .int 0, .int 8, .int x3, .int 1]) (st' := [.int 1]) rfl ?_
        refine wp_if_t rfl (show ¬ (1 : Int32) = 0 from by decide) ?_
        refine wp_run 1 (pc' := 48) (ls' := [.ref 0, .int 0, .int 8, .int x3, .int 1]) (st' := [.int 8]) rfl ?_
        refine wp_if_t rfl (show ¬ (8 : Int32) = 0 from by decide) ?_
        refine wp_run 1 (pc' := 65) (ls' := [.ref 0, .int 0, .int 8, .int x3, .int 1]) (st' := [.int x3]) rfl ?_
        refine wp_if rfl (fun (cq65 : 0 ≤ x3) => ?_) (fun (cq65 : ¬ (0 ≤ x3)) => ?_)
        · skip
          refine wp_run 2 (pc' := 77) (ls' := [.ref 0, .int 0, .int 8, .int x3, .int 1]) (st' := [.int 24, .int x3]) rfl ?_
          refine wp_icmp rfl (fun (cq77 : x3 ≤ 24) => ?_) (fun (cq77 : ¬ (x3 ≤ 24)) => ?_)
          · skip
            obtain ⟨k3, hk3, ek3⟩ := pu_of (m := 24) (by omega) cq65 cq77
            subst ek3
            refine wp_run 1 (pc' := 87) (ls' := [.ref 0, .int 0, .int 8, .int (nI k3), .int 1]) (st' := [.ref 0]) rfl ?_
            refine wp_getr 64 rfl rfl rfl ?_
            refine wp_run 1 (pc' := 91) (ls' := [.ref 0, .int 0, .int 8, .int (nI k3), .int 1]) (st' := [.int 0, .ref 64]) rfl ?_
            refine wp_aald (r := 65) rfl rfl (Or.inr rfl) rfl (by decide) rfl rfl ?_
            refine wp_run 2 (pc' := 94) (ls' := [.ref 0, .int 0, .int 8, .int (nI k3), .int 1]) (st' := [.int (nI k3), .int 8, .ref 65]) rfl ?_
            refine wp_callV (o := 65) (as := [.int 8, .int (nI k3)]) (rest := []) (els := [.ref 65, .int 8, .int (nI k3), am_du]) rfl rfl rfl rfl rfl rfl rfl rfl (by omega) ?_
            refine sp_lay (o := 65) rfl rfl rfl ?_
            show am_wp L xs _ _ _ _ 97 [.ref 0, .int 0, .int 8, .int (nI k3), .int 1] [] (am_S b) (am_ur (am_u (am_u h 65 1 8) 65 2 (nI k3)) 66 (sh_zf ((am_u (am_u h 65 1 8) 65 2 (nI k3)) 66) 24)) _
            refine wp_run 1 (pc' := 98) (ls' := [.ref 0, .int 0, .int 8, .int (nI k3), .int 1]) (st' := [.int 1]) rfl ?_
            refine wp_ret rfl ?_
            refine kk _ _ _ (fun ms2 Q2 kk2 => ?_)
            refine wp_run 1 (pc' := 1) (ls' := [.ref 74, .int 0, .int 8, .int (nI k3), am_du]) (st' := [.int 0]) rfl ?_
            refine wp_callS (as := [.int 0]) (rest := []) (els := [.int 0]) rfl rfl rfl rfl rfl rfl rfl rfl (by omega) ?_
            refine sp_m_isSheet (by omega) (fun _ _ _ => ?_) (fun q => absurd rfl (q 0 (by omega)))
            show am_wp L xs _ _ _ _ 4 [.ref 74, .int 0, .int 8, .int (nI k3), am_du] [.int 1] (am_S b) (am_ur (am_u (am_u h 65 1 8) 65 2 (nI k3)) 66 (sh_zf ((am_u (am_u h 65 1 8) 65 2 (nI k3)) 66) 24)) _
            refine wp_if_f rfl (show ¬ ((1 : Int32) = 0) from by decide) ?_
            refine wp_run 1 (pc' := 8) (ls' := [.ref 74, .int 0, .int 8, .int (nI k3), am_du]) (st' := [.int 8]) rfl ?_
            refine wp_if_f rfl (show ¬ ((8 : Int32) = 0) from by decide) ?_
            refine wp_run 2 (pc' := 14) (ls' := [.ref 74, .int 0, .int 8, .int (nI k3), am_du]) (st' := [.int 8, .int 8]) rfl ?_
            refine wp_icmp_t rfl (show (8 : Int32) = 8 from by decide) ?_
            refine wp_run 1 (pc' := 37) (ls' := [.ref 74, .int 0, .int 8, .int (nI k3), am_du]) (st' := [.int 8]) rfl ?_
            refine wp_if_f rfl (show ¬ ((8 : Int32) ≤ 0) from by decide) ?_
            refine wp_run 1 (pc' := 41) (ls' := [.ref 74, .int 0, .int 8, .int (nI k3), am_du]) (st' := [.int (nI k3)]) rfl ?_
            refine wp_if_t rfl (show 0 ≤ (nI k3) from (nI_leI (a := 0) (b := k3) (by omega) (by omega)).mpr (by omega)) ?_
            refine wp_run 1 (pc' := 52) (ls' := [.ref 74, .int 0, .int 8, .int (nI k3), am_du]) (st' := [.int 8]) rfl ?_
            refine wp_if_f rfl (show ¬ ((8 : Int32) ≤ 0) from by decide) ?_
            refine wp_run 2 (pc' := 58) (ls' := [.ref 74, .int 0, .int 8, .int (nI k3), am_du]) (st' := [.int 24, .int (nI k3)]) rfl ?_
            refine wp_icmp_t rfl (show (nI k3) ≤ 24 from (nI_leI (a := k3) (b := 24) (by omega) (by omega)).mpr (by omega)) ?_
            refine wp_run 1 (pc' := 69) (ls' := [.ref 74, .int 0, .int 8, .int (nI k3), am_du]) (st' := [.ref 74]) rfl ?_
            refine wp_getr 78 rfl rfl rfl ?_
            refine wp_run 2 (pc' := 74) (ls' := [.ref 74, .int 0, .int 8, .int (nI k3), am_du]) (st' := [.int 8, .int 0, .ref 78]) rfl ?_
            refine wp_ast rfl rfl rfl (by decide) rfl ?_
            refine wp_run 1 (pc' := 76) (ls' := [.ref 74, .int 0, .int 8, .int (nI k3), am_du]) (st' := [.ref 74]) rfl ?_
            refine wp_getr 79 rfl rfl rfl ?_
            refine wp_run 2 (pc' := 81) (ls' := [.ref 74, .int 0, .int 8, .int (nI k3), am_du]) (st' := [.int 8, .int 0, .ref 79]) rfl ?_
            refine wp_if_t rfl (show ¬ (8 : Int32) = 0 from by decide) ?_
            refine wp_run 1 (pc' := 89) (ls' := [.ref 74, .int 0, .int 8, .int (nI k3), am_du]) (st' := [.int (nI k3), .int 0, .ref 79]) rfl ?_
            refine wp_ast rfl rfl rfl (by decide) rfl ?_
            refine wp_run 2 (pc' := 93) (ls' := [.ref 74, .int 0, .int 8, .int (nI k3), .int 0]) (st' := []) rfl ?_
            have hp := lp_sheet (L := L) (xs := xs) (d := d) (ms := ms2) (b := b) (h := (am_u (am_u (am_ur (am_u (am_u h 65 1 8) 65 2 (nI k3)) 66 (sh_zf ((am_u (am_u h 65 1 8) 65 2 (nI k3)) 66) 24)) 78 0 8) 79 0 (nI k3))) (s := 0) (b2 := 8) (b3 := (nI k3)) (Q := Q2) (by omega) ?_ 24 0 (by omega)
            · rw [sh_zc_0] at hp; exact hp
            · exact kk2 _ _ ⟨⟨n, c, t, tp, wt, s0, s1, p0, p1, H⟩, re_im_s hI, hE, (re_sh_n (l := k3) (v := 8) (by omega) (Or.inr (Or.inl rfl))), (re_sh_l hS1 (s2 := 0) (by omega) 8 (nI k3)), (re_sh_l hS2 (s2 := 0) (by omega) 8 (nI k3)), (re_sh_l hS3 (s2 := 0) (by omega) 8 (nI k3)), hT⟩
          · skip
            refine wp_run 2 (pc' := 82) (ls' := [.ref 0, .int 0, .int 8, .int x3, .int 1]) (st' := [.int 1, .ref 0]) rfl ?_
            refine wp_callV (o := 0) (as := [.int 1]) (rest := []) (els := [.ref 0, .int 1]) rfl rfl rfl rfl rfl rfl rfl rfl (by omega) ?_
            refine sp_refuse1 (by omega) ?_
            show am_wp L xs _ _ _ _ 85 [.ref 0, .int 0, .int 8, .int x3, .int 1] [.int (-1000000001)] (am_S b) (am_u h 73 1 (h 73 1 + 1)) _
            refine wp_ret rfl ?_
            refine kk _ _ _ (fun ms2 Q2 kk2 => ?_)
            refine wp_run 1 (pc' := 1) (ls' := [.ref 74, .int 0, .int 8, .int x3, am_du]) (st' := [.int 0]) rfl ?_
            refine wp_callS (as := [.int 0]) (rest := []) (els := [.int 0]) rfl rfl rfl rfl rfl rfl rfl rfl (by omega) ?_
            refine sp_m_isSheet (by omega) (fun _ _ _ => ?_) (fun q => absurd rfl (q 0 (by omega)))
            show am_wp L xs _ _ _ _ 4 [.ref 74, .int 0, .int 8, .int x3, am_du] [.int 1] (am_S b) (am_u h 73 1 (h 73 1 + 1)) _
            refine wp_if_f rfl (show ¬ ((1 : Int32) = 0) from by decide) ?_
            refine wp_run 1 (pc' := 8) (ls' := [.ref 74, .int 0, .int 8, .int x3, am_du]) (st' := [.int 8]) rfl ?_
            refine wp_if_f rfl (show ¬ ((8 : Int32) = 0) from by decide) ?_
            refine wp_run 2 (pc' := 14) (ls' := [.ref 74, .int 0, .int 8, .int x3, am_du]) (st' := [.int 8, .int 8]) rfl ?_
            refine wp_icmp_t rfl (show (8 : Int32) = 8 from by decide) ?_
            refine wp_run 1 (pc' := 37) (ls' := [.ref 74, .int 0, .int 8, .int x3, am_du]) (st' := [.int 8]) rfl ?_
            refine wp_if_f rfl (show ¬ ((8 : Int32) ≤ 0) from by decide) ?_
            refine wp_run 1 (pc' := 41) (ls' := [.ref 74, .int 0, .int 8, .int x3, am_du]) (st' := [.int x3]) rfl ?_
            refine wp_if_t rfl (show 0 ≤ x3 from cq65) ?_
            refine wp_run 1 (pc' := 52) (ls' := [.ref 74, .int 0, .int 8, .int x3, am_du]) (st' := [.int 8]) rfl ?_
            refine wp_if_f rfl (show ¬ ((8 : Int32) ≤ 0) from by decide) ?_
            refine wp_run 2 (pc' := 58) (ls' := [.ref 74, .int 0, .int 8, .int x3, am_du]) (st' := [.int 24, .int x3]) rfl ?_
            refine wp_icmp_f rfl (show ¬ (x3 ≤ 24) from cq77) ?_
            refine wp_run 2 (pc' := 64) (ls' := [.ref 74, .int 0, .int 8, .int x3, am_du]) (st' := [.int (-1000000001), .ref 74]) rfl ?_
            refine wp_callV (o := 74) (as := [.int (-1000000001)]) (rest := []) (els := [.ref 74, .int (-1000000001)]) rfl rfl rfl rfl rfl rfl rfl rfl (by omega) ?_
            refine sp_error1 ?_
            show am_wp L xs _ _ _ _ 67 [.ref 74, .int 0, .int 8, .int x3, am_du] [.int (-1000000001)] (am_S b) (am_u (am_u h 73 1 (h 73 1 + 1)) 77 1 ((am_u h 73 1 (h 73 1 + 1)) 77 1 + 1)) _
            refine wp_ret rfl ?_
            exact kk2 _ _ (re_err1 hR)
        · skip
          refine wp_run 2 (pc' := 70) (ls' := [.ref 0, .int 0, .int 8, .int x3, .int 1]) (st' := [.int 3, .ref 0]) rfl ?_
          refine wp_callV (o := 0) (as := [.int 3]) (rest := []) (els := [.ref 0, .int 3]) rfl rfl rfl rfl rfl rfl rfl rfl (by omega) ?_
          refine sp_refuse3 (by omega) ?_
          show am_wp L xs _ _ _ _ 73 [.ref 0, .int 0, .int 8, .int x3, .int 1] [.int (-1000000003)] (am_S b) (am_u h 73 3 (h 73 3 + 1)) _
          refine wp_ret rfl ?_
          refine kk _ _ _ (fun ms2 Q2 kk2 => ?_)
          refine wp_run 1 (pc' := 1) (ls' := [.ref 74, .int 0, .int 8, .int x3, am_du]) (st' := [.int 0]) rfl ?_
          refine wp_callS (as := [.int 0]) (rest := []) (els := [.int 0]) rfl rfl rfl rfl rfl rfl rfl rfl (by omega) ?_
          refine sp_m_isSheet (by omega) (fun _ _ _ => ?_) (fun q => absurd rfl (q 0 (by omega)))
          show am_wp L xs _ _ _ _ 4 [.ref 74, .int 0, .int 8, .int x3, am_du] [.int 1] (am_S b) (am_u h 73 3 (h 73 3 + 1)) _
          refine wp_if_f rfl (show ¬ ((1 : Int32) = 0) from by decide) ?_
          refine wp_run 1 (pc' := 8) (ls' := [.ref 74, .int 0, .int 8, .int x3, am_du]) (st' := [.int 8]) rfl ?_
          refine wp_if_f rfl (show ¬ ((8 : Int32) = 0) from by decide) ?_
          refine wp_run 2 (pc' := 14) (ls' := [.ref 74, .int 0, .int 8, .int x3, am_du]) (st' := [.int 8, .int 8]) rfl ?_
          refine wp_icmp_t rfl (show (8 : Int32) = 8 from by decide) ?_
          refine wp_run 1 (pc' := 37) (ls' := [.ref 74, .int 0, .int 8, .int x3, am_du]) (st' := [.int 8]) rfl ?_
          refine wp_if_f rfl (show ¬ ((8 : Int32) ≤ 0) from by decide) ?_
          refine wp_run 1 (pc' := 41) (ls' := [.ref 74, .int 0, .int 8, .int x3, am_du]) (st' := [.int x3]) rfl ?_
          refine wp_if_f rfl (show ¬ (0 ≤ x3) from cq65) ?_
          refine wp_run 2 (pc' := 47) (ls' := [.ref 74, .int 0, .int 8, .int x3, am_du]) (st' := [.int (-1000000003), .ref 74]) rfl ?_
          refine wp_callV (o := 74) (as := [.int (-1000000003)]) (rest := []) (els := [.ref 74, .int (-1000000003)]) rfl rfl rfl rfl rfl rfl rfl rfl (by omega) ?_
          refine sp_error3 ?_
          show am_wp L xs _ _ _ _ 50 [.ref 74, .int 0, .int 8, .int x3, am_du] [.int (-1000000003)] (am_S b) (am_u (am_u h 73 3 (h 73 3 + 1)) 77 3 ((am_u h 73 3 (h 73 3 + 1)) 77 3 + 1)) _
          refine wp_ret rfl ?_
          exact kk2 _ _ (re_err3 hR)
      · skip
        intro ex1
        subst ex1
        show am_wp L xs _ _ _ _ 33 [.ref 0, .int 1, .int 8, .int x3, .int 1] [.int 1] (am_S b) h _
        refine wp_if_f rfl (show ¬ ((1 : Int32) = 0) from by decide) ?_
        refine wp_run 1 (pc' := 38) (ls' := [.ref 0, .int 1, .int 8, .int x3, .int 1]) (st' := [.int 1]) rfl ?_
        refine wp_if_t rfl (show ¬ (1 : Int32) = 0 from by decide) ?_
        refine wp_run 1 (pc' := 48) (ls' := [.ref 0, .int 1, .int 8, .int x3, .int 1]) (st' := [.int 8]) rfl ?_
        refine wp_if_t rfl (show ¬ (8 : Int32) = 0 from by decide) ?_
        refine wp_run 1 (pc' := 65) (ls' := [.ref 0, .int 1, .int 8, .int x3, .int 1]) (st' := [.int x3]) rfl ?_
        refine wp_if rfl (fun (cq65 : 0 ≤ x3) => ?_) (fun (cq65 : ¬ (0 ≤ x3)) => ?_)
        · skip
          refine wp_run 2 (pc' := 77) (ls' := [.ref 0, .int 1, .int 8, .int x3, .int 1]) (st' := [.int 24, .int x3]) rfl ?_
          refine wp_icmp rfl (fun (cq77 : x3 ≤ 24) => ?_) (fun (cq77 : ¬ (x3 ≤ 24)) => ?_)
          · skip
            obtain ⟨k3, hk3, ek3⟩ := pu_of (m := 24) (by omega) cq65 cq77
            subst ek3
            refine wp_run 1 (pc' := 87) (ls' := [.ref 0, .int 1, .int 8, .int (nI k3), .int 1]) (st' := [.ref 0]) rfl ?_
            refine wp_getr 64 rfl rfl rfl ?_
            refine wp_run 1 (pc' := 91) (ls' := [.ref 0, .int 1, .int 8, .int (nI k3), .int 1]) (st' := [.int 1, .ref 64]) rfl ?_
            refine wp_aald (r := 67) rfl rfl (Or.inr rfl) rfl (by decide) rfl rfl ?_
            refine wp_run 2 (pc' := 94) (ls' := [.ref 0, .int 1, .int 8, .int (nI k3), .int 1]) (st' := [.int (nI k3), .int 8, .ref 67]) rfl ?_
            refine wp_callV (o := 67) (as := [.int 8, .int (nI k3)]) (rest := []) (els := [.ref 67, .int 8, .int (nI k3), am_du]) rfl rfl rfl rfl rfl rfl rfl rfl (by omega) ?_
            refine sp_lay (o := 67) rfl rfl rfl ?_
            show am_wp L xs _ _ _ _ 97 [.ref 0, .int 1, .int 8, .int (nI k3), .int 1] [] (am_S b) (am_ur (am_u (am_u h 67 1 8) 67 2 (nI k3)) 68 (sh_zf ((am_u (am_u h 67 1 8) 67 2 (nI k3)) 68) 24)) _
            refine wp_run 1 (pc' := 98) (ls' := [.ref 0, .int 1, .int 8, .int (nI k3), .int 1]) (st' := [.int 1]) rfl ?_
            refine wp_ret rfl ?_
            refine kk _ _ _ (fun ms2 Q2 kk2 => ?_)
            refine wp_run 1 (pc' := 1) (ls' := [.ref 74, .int 1, .int 8, .int (nI k3), am_du]) (st' := [.int 1]) rfl ?_
            refine wp_callS (as := [.int 1]) (rest := []) (els := [.int 1]) rfl rfl rfl rfl rfl rfl rfl rfl (by omega) ?_
            refine sp_m_isSheet (by omega) (fun _ _ _ => ?_) (fun q => absurd rfl (q 1 (by omega)))
            show am_wp L xs _ _ _ _ 4 [.ref 74, .int 1, .int 8, .int (nI k3), am_du] [.int 1] (am_S b) (am_ur (am_u (am_u h 67 1 8) 67 2 (nI k3)) 68 (sh_zf ((am_u (am_u h 67 1 8) 67 2 (nI k3)) 68) 24)) _
            refine wp_if_f rfl (show ¬ ((1 : Int32) = 0) from by decide) ?_
            refine wp_run 1 (pc' := 8) (ls' := [.ref 74, .int 1, .int 8, .int (nI k3), am_du]) (st' := [.int 8]) rfl ?_
            refine wp_if_f rfl (show ¬ ((8 : Int32) = 0) from by decide) ?_
            refine wp_run 2 (pc' := 14) (ls' := [.ref 74, .int 1, .int 8, .int (nI k3), am_du]) (st' := [.int 8, .int 8]) rfl ?_
            refine wp_icmp_t rfl (show (8 : Int32) = 8 from by decide) ?_
            refine wp_run 1 (pc' := 37) (ls' := [.ref 74, .int 1, .int 8, .int (nI k3), am_du]) (st' := [.int 8]) rfl ?_
            refine wp_if_f rfl (show ¬ ((8 : Int32) ≤ 0) from by decide) ?_
            refine wp_run 1 (pc' := 41) (ls' := [.ref 74, .int 1, .int 8, .int (nI k3), am_du]) (st' := [.int (nI k3)]) rfl ?_
            refine wp_if_t rfl (show 0 ≤ (nI k3) from (nI_leI (a := 0) (b := k3) (by omega) (by omega)).mpr (by omega)) ?_
            refine wp_run 1 (pc' := 52) (ls' := [.ref 74, .int 1, .int 8, .int (nI k3), am_du]) (st' := [.int 8]) rfl ?_
            refine wp_if_f rfl (show ¬ ((8 : Int32) ≤ 0) from by decide) ?_
            refine wp_run 2 (pc' := 58) (ls' := [.ref 74, .int 1, .int 8, .int (nI k3), am_du]) (st' := [.int 24, .int (nI k3)]) rfl ?_
            refine wp_icmp_t rfl (show (nI k3) ≤ 24 from (nI_leI (a := k3) (b := 24) (by omega) (by omega)).mpr (by omega)) ?_
            refine wp_run 1 (pc' := 69) (ls' := [.ref 74, .int 1, .int 8, .int (nI k3), am_du]) (st' := [.ref 74]) rfl ?_
            refine wp_getr 78 rfl rfl rfl ?_
            refine wp_run 2 (pc' := 74) (ls' := [.ref 74, .int 1, .int 8, .int (nI k3), am_du]) (st' := [.int 8, .int 1, .ref 78]) rfl ?_
            refine wp_ast rfl rfl rfl (by decide) rfl ?_
            refine wp_run 1 (pc' := 76) (ls' := [.ref 74, .int 1, .int 8, .int (nI k3), am_du]) (st' := [.ref 74]) rfl ?_
            refine wp_getr 79 rfl rfl rfl ?_
            refine wp_run 2 (pc' := 81) (ls' := [.ref 74, .int 1, .int 8, .int (nI k3), am_du]) (st' := [.int 8, .int 1, .ref 79]) rfl ?_
            refine wp_if_t rfl (show ¬ (8 : Int32) = 0 from by decide) ?_
            refine wp_run 1 (pc' := 89) (ls' := [.ref 74, .int 1, .int 8, .int (nI k3), am_du]) (st' := [.int (nI k3), .int 1, .ref 79]) rfl ?_
            refine wp_ast rfl rfl rfl (by decide) rfl ?_
            refine wp_run 2 (pc' := 93) (ls' := [.ref 74, .int 1, .int 8, .int (nI k3), .int 0]) (st' := []) rfl ?_
            have hp := lp_sheet (L := L) (xs := xs) (d := d) (ms := ms2) (b := b) (h := (am_u (am_u (am_ur (am_u (am_u h 67 1 8) 67 2 (nI k3)) 68 (sh_zf ((am_u (am_u h 67 1 8) 67 2 (nI k3)) 68) 24)) 78 1 8) 79 1 (nI k3))) (s := 1) (b2 := 8) (b3 := (nI k3)) (Q := Q2) (by omega) ?_ 24 0 (by omega)
            · rw [sh_zc_0] at hp; exact hp
            · exact kk2 _ _ ⟨⟨n, c, t, tp, wt, s0, s1, p0, p1, H⟩, re_im_s hI, hE, (re_sh_l hS0 (s2 := 1) (by omega) 8 (nI k3)), (re_sh_n (l := k3) (v := 8) (by omega) (Or.inr (Or.inl rfl))), (re_sh_l hS2 (s2 := 1) (by omega) 8 (nI k3)), (re_sh_l hS3 (s2 := 1) (by omega) 8 (nI k3)), hT⟩
          · skip
            refine wp_run 2 (pc' := 82) (ls' := [.ref 0, .int 1, .int 8, .int x3, .int 1]) (st' := [.int 1, .ref 0]) rfl ?_
            refine wp_callV (o := 0) (as := [.int 1]) (rest := []) (els := [.ref 0, .int 1]) rfl rfl rfl rfl rfl rfl rfl rfl (by omega) ?_
            refine sp_refuse1 (by omega) ?_
            show am_wp L xs _ _ _ _ 85 [.ref 0, .int 1, .int 8, .int x3, .int 1] [.int (-1000000001)] (am_S b) (am_u h 73 1 (h 73 1 + 1)) _
            refine wp_ret rfl ?_
            refine kk _ _ _ (fun ms2 Q2 kk2 => ?_)
            refine wp_run 1 (pc' := 1) (ls' := [.ref 74, .int 1, .int 8, .int x3, am_du]) (st' := [.int 1]) rfl ?_
            refine wp_callS (as := [.int 1]) (rest := []) (els := [.int 1]) rfl rfl rfl rfl rfl rfl rfl rfl (by omega) ?_
            refine sp_m_isSheet (by omega) (fun _ _ _ => ?_) (fun q => absurd rfl (q 1 (by omega)))
            show am_wp L xs _ _ _ _ 4 [.ref 74, .int 1, .int 8, .int x3, am_du] [.int 1] (am_S b) (am_u h 73 1 (h 73 1 + 1)) _
            refine wp_if_f rfl (show ¬ ((1 : Int32) = 0) from by decide) ?_
            refine wp_run 1 (pc' := 8) (ls' := [.ref 74, .int 1, .int 8, .int x3, am_du]) (st' := [.int 8]) rfl ?_
            refine wp_if_f rfl (show ¬ ((8 : Int32) = 0) from by decide) ?_
            refine wp_run 2 (pc' := 14) (ls' := [.ref 74, .int 1, .int 8, .int x3, am_du]) (st' := [.int 8, .int 8]) rfl ?_
            refine wp_icmp_t rfl (show (8 : Int32) = 8 from by decide) ?_
            refine wp_run 1 (pc' := 37) (ls' := [.ref 74, .int 1, .int 8, .int x3, am_du]) (st' := [.int 8]) rfl ?_
            refine wp_if_f rfl (show ¬ ((8 : Int32) ≤ 0) from by decide) ?_
            refine wp_run 1 (pc' := 41) (ls' := [.ref 74, .int 1, .int 8, .int x3, am_du]) (st' := [.int x3]) rfl ?_
            refine wp_if_t rfl (show 0 ≤ x3 from cq65) ?_
            refine wp_run 1 (pc' := 52) (ls' := [.ref 74, .int 1, .int 8, .int x3, am_du]) (st' := [.int 8]) rfl ?_
            refine wp_if_f rfl (show ¬ ((8 : Int32) ≤ 0) from by decide) ?_
            refine wp_run 2 (pc' := 58) (ls' := [.ref 74, .int 1, .int 8, .int x3, am_du]) (st' := [.int 24, .int x3]) rfl ?_
            refine wp_icmp_f rfl (show ¬ (x3 ≤ 24) from cq77) ?_
            refine wp_run 2 (pc' := 64) (ls' := [.ref 74, .int 1, .int 8, .int x3, am_du]) (st' := [.int (-1000000001), .ref 74]) rfl ?_
            refine wp_callV (o := 74) (as := [.int (-1000000001)]) (rest := []) (els := [.ref 74, .int (-1000000001)]) rfl rfl rfl rfl rfl rfl rfl rfl (by omega) ?_
            refine sp_error1 ?_
            show am_wp L xs _ _ _ _ 67 [.ref 74, .int 1, .int 8, .int x3, am_du] [.int (-1000000001)] (am_S b) (am_u (am_u h 73 1 (h 73 1 + 1)) 77 1 ((am_u h 73 1 (h 73 1 + 1)) 77 1 + 1)) _
            refine wp_ret rfl ?_
            exact kk2 _ _ (re_err1 hR)
        · skip
          refine wp_run 2 (pc' := 70) (ls' := [.ref 0, .int 1, .int 8, .int x3, .int 1]) (st' := [.int 3, .ref 0]) rfl ?_
          refine wp_callV (o := 0) (as := [.int 3]) (rest := []) (els := [.ref 0, .int 3]) rfl rfl rfl rfl rfl rfl rfl rfl (by omega) ?_
          refine sp_refuse3 (by omega) ?_
          show am_wp L xs _ _ _ _ 73 [.ref 0, .int 1, .int 8, .int x3, .int 1] [.int (-1000000003)] (am_S b) (am_u h 73 3 (h 73 3 + 1)) _
          refine wp_ret rfl ?_
          refine kk _ _ _ (fun ms2 Q2 kk2 => ?_)
          refine wp_run 1 (pc' := 1) (ls' := [.ref 74, .int 1, .int 8, .int x3, am_du]) (st' := [.int 1]) rfl ?_
          refine wp_callS (as := [.int 1]) (rest := []) (els := [.int 1]) rfl rfl rfl rfl rfl rfl rfl rfl (by omega) ?_
          refine sp_m_isSheet (by omega) (fun _ _ _ => ?_) (fun q => absurd rfl (q 1 (by omega)))
          show am_wp L xs _ _ _ _ 4 [.ref 74, .int 1, .int 8, .int x3, am_du] [.int 1] (am_S b) (am_u h 73 3 (h 73 3 + 1)) _
          refine wp_if_f rfl (show ¬ ((1 : Int32) = 0) from by decide) ?_
          refine wp_run 1 (pc' := 8) (ls' := [.ref 74, .int 1, .int 8, .int x3, am_du]) (st' := [.int 8]) rfl ?_
          refine wp_if_f rfl (show ¬ ((8 : Int32) = 0) from by decide) ?_
          refine wp_run 2 (pc' := 14) (ls' := [.ref 74, .int 1, .int 8, .int x3, am_du]) (st' := [.int 8, .int 8]) rfl ?_
          refine wp_icmp_t rfl (show (8 : Int32) = 8 from by decide) ?_
          refine wp_run 1 (pc' := 37) (ls' := [.ref 74, .int 1, .int 8, .int x3, am_du]) (st' := [.int 8]) rfl ?_
          refine wp_if_f rfl (show ¬ ((8 : Int32) ≤ 0) from by decide) ?_
          refine wp_run 1 (pc' := 41) (ls' := [.ref 74, .int 1, .int 8, .int x3, am_du]) (st' := [.int x3]) rfl ?_
          refine wp_if_f rfl (show ¬ (0 ≤ x3) from cq65) ?_
          refine wp_run 2 (pc' := 47) (ls' := [.ref 74, .int 1, .int 8, .int x3, am_du]) (st' := [.int (-1000000003), .ref 74]) rfl ?_
          refine wp_callV (o := 74) (as := [.int (-1000000003)]) (rest := []) (els := [.ref 74, .int (-1000000003)]) rfl rfl rfl rfl rfl rfl rfl rfl (by omega) ?_
          refine sp_error3 ?_
          show am_wp L xs _ _ _ _ 50 [.ref 74, .int 1, .int 8, .int x3, am_du] [.int (-1000000003)] (am_S b) (am_u (am_u h 73 3 (h 73 3 + 1)) 77 3 ((am_u h 73 3 (h 73 3 + 1)) 77 3 + 1)) _
          refine wp_ret rfl ?_
          exact kk2 _ _ (re_err3 hR)
      · skip
        intro ex1
        subst ex1
        show am_wp L xs _ _ _ _ 33 [.ref 0, .int 2, .int 8, .int x3, .int 1] [.int 1] (am_S b) h _
        refine wp_if_f rfl (show ¬ ((1 : Int32) = 0) from by decide) ?_
        refine wp_run 1 (pc' := 38) (ls' := [.ref 0, .int 2, .int 8, .int x3, .int 1]) (st' := [.int 1]) rfl ?_
        refine wp_if_t rfl (show ¬ (1 : Int32) = 0 from by decide) ?_
        refine wp_run 1 (pc' := 48) (ls' := [.ref 0, .int 2, .int 8, .int x3, .int 1]) (st' := [.int 8]) rfl ?_
        refine wp_if_t rfl (show ¬ (8 : Int32) = 0 from by decide) ?_
        refine wp_run 1 (pc' := 65) (ls' := [.ref 0, .int 2, .int 8, .int x3, .int 1]) (st' := [.int x3]) rfl ?_
        refine wp_if rfl (fun (cq65 : 0 ≤ x3) => ?_) (fun (cq65 : ¬ (0 ≤ x3)) => ?_)
        · skip
          refine wp_run 2 (pc' := 77) (ls' := [.ref 0, .int 2, .int 8, .int x3, .int 1]) (st' := [.int 24, .int x3]) rfl ?_
          refine wp_icmp rfl (fun (cq77 : x3 ≤ 24) => ?_) (fun (cq77 : ¬ (x3 ≤ 24)) => ?_)
          · skip
            obtain ⟨k3, hk3, ek3⟩ := pu_of (m := 24) (by omega) cq65 cq77
            subst ek3
            refine wp_run 1 (pc' := 87) (ls' := [.ref 0, .int 2, .int 8, .int (nI k3), .int 1]) (st' := [.ref 0]) rfl ?_
            refine wp_getr 64 rfl rfl rfl ?_
            refine wp_run 1 (pc' := 91) (ls' := [.ref 0, .int 2, .int 8, .int (nI k3), .int 1]) (st' := [.int 2, .ref 64]) rfl ?_
            refine wp_aald (r := 69) rfl rfl (Or.inr rfl) rfl (by decide) rfl rfl ?_
            refine wp_run 2 (pc' := 94) (ls' := [.ref 0, .int 2, .int 8, .int (nI k3), .int 1]) (st' := [.int (nI k3), .int 8, .ref 69]) rfl ?_
            refine wp_callV (o := 69) (as := [.int 8, .int (nI k3)]) (rest := []) (els := [.ref 69, .int 8, .int (nI k3), am_du]) rfl rfl rfl rfl rfl rfl rfl rfl (by omega) ?_
            refine sp_lay (o := 69) rfl rfl rfl ?_
            show am_wp L xs _ _ _ _ 97 [.ref 0, .int 2, .int 8, .int (nI k3), .int 1] [] (am_S b) (am_ur (am_u (am_u h 69 1 8) 69 2 (nI k3)) 70 (sh_zf ((am_u (am_u h 69 1 8) 69 2 (nI k3)) 70) 24)) _
            refine wp_run 1 (pc' := 98) (ls' := [.ref 0, .int 2, .int 8, .int (nI k3), .int 1]) (st' := [.int 1]) rfl ?_
            refine wp_ret rfl ?_
            refine kk _ _ _ (fun ms2 Q2 kk2 => ?_)
            refine wp_run 1 (pc' := 1) (ls' := [.ref 74, .int 2, .int 8, .int (nI k3), am_du]) (st' := [.int 2]) rfl ?_
            refine wp_callS (as := [.int 2]) (rest := []) (els := [.int 2]) rfl rfl rfl rfl rfl rfl rfl rfl (by omega) ?_
            refine sp_m_isSheet (by omega) (fun _ _ _ => ?_) (fun q => absurd rfl (q 2 (by omega)))
            show am_wp L xs _ _ _ _ 4 [.ref 74, .int 2, .int 8, .int (nI k3), am_du] [.int 1] (am_S b) (am_ur (am_u (am_u h 69 1 8) 69 2 (nI k3)) 70 (sh_zf ((am_u (am_u h 69 1 8) 69 2 (nI k3)) 70) 24)) _
            refine wp_if_f rfl (show ¬ ((1 : Int32) = 0) from by decide) ?_
            refine wp_run 1 (pc' := 8) (ls' := [.ref 74, .int 2, .int 8, .int (nI k3), am_du]) (st' := [.int 8]) rfl ?_
            refine wp_if_f rfl (show ¬ ((8 : Int32) = 0) from by decide) ?_
            refine wp_run 2 (pc' := 14) (ls' := [.ref 74, .int 2, .int 8, .int (nI k3), am_du]) (st' := [.int 8, .int 8]) rfl ?_
            refine wp_icmp_t rfl (show (8 : Int32) = 8 from by decide) ?_
            refine wp_run 1 (pc' := 37) (ls' := [.ref 74, .int 2, .int 8, .int (nI k3), am_du]) (st' := [.int 8]) rfl ?_
            refine wp_if_f rfl (show ¬ ((8 : Int32) ≤ 0) from by decide) ?_
            refine wp_run 1 (pc' := 41) (ls' := [.ref 74, .int 2, .int 8, .int (nI k3), am_du]) (st' := [.int (nI k3)]) rfl ?_
            refine wp_if_t rfl (show 0 ≤ (nI k3) from (nI_leI (a := 0) (b := k3) (by omega) (by omega)).mpr (by omega)) ?_
            refine wp_run 1 (pc' := 52) (ls' := [.ref 74, .int 2, .int 8, .int (nI k3), am_du]) (st' := [.int 8]) rfl ?_
            refine wp_if_f rfl (show ¬ ((8 : Int32) ≤ 0) from by decide) ?_
            refine wp_run 2 (pc' := 58) (ls' := [.ref 74, .int 2, .int 8, .int (nI k3), am_du]) (st' := [.int 24, .int (nI k3)]) rfl ?_
            refine wp_icmp_t rfl (show (nI k3) ≤ 24 from (nI_leI (a := k3) (b := 24) (by omega) (by omega)).mpr (by omega)) ?_
            refine wp_run 1 (pc' := 69) (ls' := [.ref 74, .int 2, .int 8, .int (nI k3), am_du]) (st' := [.ref 74]) rfl ?_
            refine wp_getr 78 rfl rfl rfl ?_
            refine wp_run 2 (pc' := 74) (ls' := [.ref 74, .int 2, .int 8, .int (nI k3), am_du]) (st' := [.int 8, .int 2, .ref 78]) rfl ?_
            refine wp_ast rfl rfl rfl (by decide) rfl ?_
            refine wp_run 1 (pc' := 76) (ls' := [.ref 74, .int 2, .int 8, .int (nI k3), am_du]) (st' := [.ref 74]) rfl ?_
            refine wp_getr 79 rfl rfl rfl ?_
            refine wp_run 2 (pc' := 81) (ls' := [.ref 74, .int 2, .int 8, .int (nI k3), am_du]) (st' := [.int 8, .int 2, .ref 79]) rfl ?_
            refine wp_if_t rfl (show ¬ (8 : Int32) = 0 from by decide) ?_
            refine wp_run 1 (pc' := 89) (ls' := [.ref 74, .int 2, .int 8, .int (nI k3), am_du]) (st' := [.int (nI k3), .int 2, .ref 79]) rfl ?_
            refine wp_ast rfl rfl rfl (by decide) rfl ?_
            refine wp_run 2 (pc' := 93) (ls' := [.ref 74, .int 2, .int 8, .int (nI k3), .int 0]) (st' := []) rfl ?_
            have hp := lp_sheet (L := L) (xs := xs) (d := d) (ms := ms2) (b := b) (h := (am_u (am_u (am_ur (am_u (am_u h 69 1 8) 69 2 (nI k3)) 70 (sh_zf ((am_u (am_u h 69 1 8) 69 2 (nI k3)) 70) 24)) 78 2 8) 79 2 (nI k3))) (s := 2) (b2 := 8) (b3 := (nI k3)) (Q := Q2) (by omega) ?_ 24 0 (by omega)
            · rw [sh_zc_0] at hp; exact hp
            · exact kk2 _ _ ⟨⟨n, c, t, tp, wt, s0, s1, p0, p1, H⟩, re_im_s hI, hE, (re_sh_l hS0 (s2 := 2) (by omega) 8 (nI k3)), (re_sh_l hS1 (s2 := 2) (by omega) 8 (nI k3)), (re_sh_n (l := k3) (v := 8) (by omega) (Or.inr (Or.inl rfl))), (re_sh_l hS3 (s2 := 2) (by omega) 8 (nI k3)), hT⟩
          · skip
            refine wp_run 2 (pc' := 82) (ls' := [.ref 0, .int 2, .int 8, .int x3, .int 1]) (st' := [.int 1, .ref 0]) rfl ?_
            refine wp_callV (o := 0) (as := [.int 1]) (rest := []) (els := [.ref 0, .int 1]) rfl rfl rfl rfl rfl rfl rfl rfl (by omega) ?_
            refine sp_refuse1 (by omega) ?_
            show am_wp L xs _ _ _ _ 85 [.ref 0, .int 2, .int 8, .int x3, .int 1] [.int (-1000000001)] (am_S b) (am_u h 73 1 (h 73 1 + 1)) _
            refine wp_ret rfl ?_
            refine kk _ _ _ (fun ms2 Q2 kk2 => ?_)
            refine wp_run 1 (pc' := 1) (ls' := [.ref 74, .int 2, .int 8, .int x3, am_du]) (st' := [.int 2]) rfl ?_
            refine wp_callS (as := [.int 2]) (rest := []) (els := [.int 2]) rfl rfl rfl rfl rfl rfl rfl rfl (by omega) ?_
            refine sp_m_isSheet (by omega) (fun _ _ _ => ?_) (fun q => absurd rfl (q 2 (by omega)))
            show am_wp L xs _ _ _ _ 4 [.ref 74, .int 2, .int 8, .int x3, am_du] [.int 1] (am_S b) (am_u h 73 1 (h 73 1 + 1)) _
            refine wp_if_f rfl (show ¬ ((1 : Int32) = 0) from by decide) ?_
            refine wp_run 1 (pc' := 8) (ls' := [.ref 74, .int 2, .int 8, .int x3, am_du]) (st' := [.int 8]) rfl ?_
            refine wp_if_f rfl (show ¬ ((8 : Int32) = 0) from by decide) ?_
            refine wp_run 2 (pc' := 14) (ls' := [.ref 74, .int 2, .int 8, .int x3, am_du]) (st' := [.int 8, .int 8]) rfl ?_
            refine wp_icmp_t rfl (show (8 : Int32) = 8 from by decide) ?_
            refine wp_run 1 (pc' := 37) (ls' := [.ref 74, .int 2, .int 8, .int x3, am_du]) (st' := [.int 8]) rfl ?_
            refine wp_if_f rfl (show ¬ ((8 : Int32) ≤ 0) from by decide) ?_
            refine wp_run 1 (pc' := 41) (ls' := [.ref 74, .int 2, .int 8, .int x3, am_du]) (st' := [.int x3]) rfl ?_
            refine wp_if_t rfl (show 0 ≤ x3 from cq65) ?_
            refine wp_run 1 (pc' := 52) (ls' := [.ref 74, .int 2, .int 8, .int x3, am_du]) (st' := [.int 8]) rfl ?_
            refine wp_if_f rfl (show ¬ ((8 : Int32) ≤ 0) from by decide) ?_
            refine wp_run 2 (pc' := 58) (ls' := [.ref 74, .int 2, .int 8, .int x3, am_du]) (st' := [.int 24, .int x3]) rfl ?_
            refine wp_icmp_f rfl (show ¬ (x3 ≤ 24) from cq77) ?_
            refine wp_run 2 (pc' := 64) (ls' := [.ref 74, .int 2, .int 8, .int x3, am_du]) (st' := [.int (-1000000001), .ref 74]) rfl ?_
            refine wp_callV (o := 74) (as := [.int (-1000000001)]) (rest := []) (els := [.ref 74, .int (-1000000001)]) rfl rfl rfl rfl rfl rfl rfl rfl (by omega) ?_
            refine sp_error1 ?_
            show am_wp L xs _ _ _ _ 67 [.ref 74, .int 2, .int 8, .int x3, am_du] [.int (-1000000001)] (am_S b) (am_u (am_u h 73 1 (h 73 1 + 1)) 77 1 ((am_u h 73 1 (h 73 1 + 1)) 77 1 + 1)) _
            refine wp_ret rfl ?_
            exact kk2 _ _ (re_err1 hR)
        · skip
          refine wp_run 2 (pc' := 70) (ls' := [.ref 0, .int 2, .int 8, .int x3, .int 1]) (st' := [.int 3, .ref 0]) rfl ?_
          refine wp_callV (o := 0) (as := [.int 3]) (rest := []) (els := [.ref 0, .int 3]) rfl rfl rfl rfl rfl rfl rfl rfl (by omega) ?_
          refine sp_refuse3 (by omega) ?_
          show am_wp L xs _ _ _ _ 73 [.ref 0, .int 2, .int 8, .int x3, .int 1] [.int (-1000000003)] (am_S b) (am_u h 73 3 (h 73 3 + 1)) _
          refine wp_ret rfl ?_
          refine kk _ _ _ (fun ms2 Q2 kk2 => ?_)
          refine wp_run 1 (pc' := 1) (ls' := [.ref 74, .int 2, .int 8, .int x3, am_du]) (st' := [.int 2]) rfl ?_
          refine wp_callS (as := [.int 2]) (rest := []) (els := [.int 2]) rfl rfl rfl rfl rfl rfl rfl rfl (by omega) ?_
          refine sp_m_isSheet (by omega) (fun _ _ _ => ?_) (fun q => absurd rfl (q 2 (by omega)))
          show am_wp L xs _ _ _ _ 4 [.ref 74, .int 2, .int 8, .int x3, am_du] [.int 1] (am_S b) (am_u h 73 3 (h 73 3 + 1)) _
          refine wp_if_f rfl (show ¬ ((1 : Int32) = 0) from by decide) ?_
          refine wp_run 1 (pc' := 8) (ls' := [.ref 74, .int 2, .int 8, .int x3, am_du]) (st' := [.int 8]) rfl ?_
          refine wp_if_f rfl (show ¬ ((8 : Int32) = 0) from by decide) ?_
          refine wp_run 2 (pc' := 14) (ls' := [.ref 74, .int 2, .int 8, .int x3, am_du]) (st' := [.int 8, .int 8]) rfl ?_
          refine wp_icmp_t rfl (show (8 : Int32) = 8 from by decide) ?_
          refine wp_run 1 (pc' := 37) (ls' := [.ref 74, .int 2, .int 8, .int x3, am_du]) (st' := [.int 8]) rfl ?_
          refine wp_if_f rfl (show ¬ ((8 : Int32) ≤ 0) from by decide) ?_
          refine wp_run 1 (pc' := 41) (ls' := [.ref 74, .int 2, .int 8, .int x3, am_du]) (st' := [.int x3]) rfl ?_
          refine wp_if_f rfl (show ¬ (0 ≤ x3) from cq65) ?_
          refine wp_run 2 (pc' := 47) (ls' := [.ref 74, .int 2, .int 8, .int x3, am_du]) (st' := [.int (-1000000003), .ref 74]) rfl ?_
          refine wp_callV (o := 74) (as := [.int (-1000000003)]) (rest := []) (els := [.ref 74, .int (-1000000003)]) rfl rfl rfl rfl rfl rfl rfl rfl (by omega) ?_
          refine sp_error3 ?_
          show am_wp L xs _ _ _ _ 50 [.ref 74, .int 2, .int 8, .int x3, am_du] [.int (-1000000003)] (am_S b) (am_u (am_u h 73 3 (h 73 3 + 1)) 77 3 ((am_u h 73 3 (h 73 3 + 1)) 77 3 + 1)) _
          refine wp_ret rfl ?_
          exact kk2 _ _ (re_err3 hR)
      · skip
        intro ex1
        subst ex1
        show am_wp L xs _ _ _ _ 33 [.ref 0, .int 3, .int 8, .int x3, .int 1] [.int 1] (am_S b) h _
        refine wp_if_f rfl (show ¬ ((1 : Int32) = 0) from by decide) ?_
        refine wp_run 1 (pc' := 38) (ls' := [.ref 0, .int 3, .int 8, .int x3, .int 1]) (st' := [.int 1]) rfl ?_
        refine wp_if_t rfl (show ¬ (1 : Int32) = 0 from by decide) ?_
        refine wp_run 1 (pc' := 48) (ls' := [.ref 0, .int 3, .int 8, .int x3, .int 1]) (st' := [.int 8]) rfl ?_
        refine wp_if_t rfl (show ¬ (8 : Int32) = 0 from by decide) ?_
        refine wp_run 1 (pc' := 65) (ls' := [.ref 0, .int 3, .int 8, .int x3, .int 1]) (st' := [.int x3]) rfl ?_
        refine wp_if rfl (fun (cq65 : 0 ≤ x3) => ?_) (fun (cq65 : ¬ (0 ≤ x3)) => ?_)
        · skip
          refine wp_run 2 (pc' := 77) (ls' := [.ref 0, .int 3, .int 8, .int x3, .int 1]) (st' := [.int 24, .int x3]) rfl ?_
          refine wp_icmp rfl (fun (cq77 : x3 ≤ 24) => ?_) (fun (cq77 : ¬ (x3 ≤ 24)) => ?_)
          · skip
            obtain ⟨k3, hk3, ek3⟩ := pu_of (m := 24) (by omega) cq65 cq77
            subst ek3
            refine wp_run 1 (pc' := 87) (ls' := [.ref 0, .int 3, .int 8, .int (nI k3), .int 1]) (st' := [.ref 0]) rfl ?_
            refine wp_getr 64 rfl rfl rfl ?_
            refine wp_run 1 (pc' := 91) (ls' := [.ref 0, .int 3, .int 8, .int (nI k3), .int 1]) (st' := [.int 3, .ref 64]) rfl ?_
            refine wp_aald (r := 71) rfl rfl (Or.inr rfl) rfl (by decide) rfl rfl ?_
            refine wp_run 2 (pc' := 94) (ls' := [.ref 0, .int 3, .int 8, .int (nI k3), .int 1]) (st' := [.int (nI k3), .int 8, .ref 71]) rfl ?_
            refine wp_callV (o := 71) (as := [.int 8, .int (nI k3)]) (rest := []) (els := [.ref 71, .int 8, .int (nI k3), am_du]) rfl rfl rfl rfl rfl rfl rfl rfl (by omega) ?_
            refine sp_lay (o := 71) rfl rfl rfl ?_
            show am_wp L xs _ _ _ _ 97 [.ref 0, .int 3, .int 8, .int (nI k3), .int 1] [] (am_S b) (am_ur (am_u (am_u h 71 1 8) 71 2 (nI k3)) 72 (sh_zf ((am_u (am_u h 71 1 8) 71 2 (nI k3)) 72) 24)) _
            refine wp_run 1 (pc' := 98) (ls' := [.ref 0, .int 3, .int 8, .int (nI k3), .int 1]) (st' := [.int 1]) rfl ?_
            refine wp_ret rfl ?_
            refine kk _ _ _ (fun ms2 Q2 kk2 => ?_)
            refine wp_run 1 (pc' := 1) (ls' := [.ref 74, .int 3, .int 8, .int (nI k3), am_du]) (st' := [.int 3]) rfl ?_
            refine wp_callS (as := [.int 3]) (rest := []) (els := [.int 3]) rfl rfl rfl rfl rfl rfl rfl rfl (by omega) ?_
            refine sp_m_isSheet (by omega) (fun _ _ _ => ?_) (fun q => absurd rfl (q 3 (by omega)))
            show am_wp L xs _ _ _ _ 4 [.ref 74, .int 3, .int 8, .int (nI k3), am_du] [.int 1] (am_S b) (am_ur (am_u (am_u h 71 1 8) 71 2 (nI k3)) 72 (sh_zf ((am_u (am_u h 71 1 8) 71 2 (nI k3)) 72) 24)) _
            refine wp_if_f rfl (show ¬ ((1 : Int32) = 0) from by decide) ?_
            refine wp_run 1 (pc' := 8) (ls' := [.ref 74, .int 3, .int 8, .int (nI k3), am_du]) (st' := [.int 8]) rfl ?_
            refine wp_if_f rfl (show ¬ ((8 : Int32) = 0) from by decide) ?_
            refine wp_run 2 (pc' := 14) (ls' := [.ref 74, .int 3, .int 8, .int (nI k3), am_du]) (st' := [.int 8, .int 8]) rfl ?_
            refine wp_icmp_t rfl (show (8 : Int32) = 8 from by decide) ?_
            refine wp_run 1 (pc' := 37) (ls' := [.ref 74, .int 3, .int 8, .int (nI k3), am_du]) (st' := [.int 8]) rfl ?_
            refine wp_if_f rfl (show ¬ ((8 : Int32) ≤ 0) from by decide) ?_
            refine wp_run 1 (pc' := 41) (ls' := [.ref 74, .int 3, .int 8, .int (nI k3), am_du]) (st' := [.int (nI k3)]) rfl ?_
            refine wp_if_t rfl (show 0 ≤ (nI k3) from (nI_leI (a := 0) (b := k3) (by omega) (by omega)).mpr (by omega)) ?_
            refine wp_run 1 (pc' := 52) (ls' := [.ref 74, .int 3, .int 8, .int (nI k3), am_du]) (st' := [.int 8]) rfl ?_
            refine wp_if_f rfl (show ¬ ((8 : Int32) ≤ 0) from by decide) ?_
            refine wp_run 2 (pc' := 58) (ls' := [.ref 74, .int 3, .int 8, .int (nI k3), am_du]) (st' := [.int 24, .int (nI k3)]) rfl ?_
            refine wp_icmp_t rfl (show (nI k3) ≤ 24 from (nI_leI (a := k3) (b := 24) (by omega) (by omega)).mpr (by omega)) ?_
            refine wp_run 1 (pc' := 69) (ls' := [.ref 74, .int 3, .int 8, .int (nI k3), am_du]) (st' := [.ref 74]) rfl ?_
            refine wp_getr 78 rfl rfl rfl ?_
            refine wp_run 2 (pc' := 74) (ls' := [.ref 74, .int 3, .int 8, .int (nI k3), am_du]) (st' := [.int 8, .int 3, .ref 78]) rfl ?_
            refine wp_ast rfl rfl rfl (by decide) rfl ?_
            refine wp_run 1 (pc' := 76) (ls' := [.ref 74, .int 3, .int 8, .int (nI k3), am_du]) (st' := [.ref 74]) rfl ?_
            refine wp_getr 79 rfl rfl rfl ?_
            refine wp_run 2 (pc' := 81) (ls' := [.ref 74, .int 3, .int 8, .int (nI k3), am_du]) (st' := [.int 8, .int 3, .ref 79]) rfl ?_
            refine wp_if_t rfl (show ¬ (8 : Int32) = 0 from by decide) ?_
            refine wp_run 1 (pc' := 89) (ls' := [.ref 74, .int 3, .int 8, .int (nI k3), am_du]) (st' := [.int (nI k3), .int 3, .ref 79]) rfl ?_
            refine wp_ast rfl rfl rfl (by decide) rfl ?_
            refine wp_run 2 (pc' := 93) (ls' := [.ref 74, .int 3, .int 8, .int (nI k3), .int 0]) (st' := []) rfl ?_
            have hp := lp_sheet (L := L) (xs := xs) (d := d) (ms := ms2) (b := b) (h := (am_u (am_u (am_ur (am_u (am_u h 71 1 8) 71 2 (nI k3)) 72 (sh_zf ((am_u (am_u h 71 1 8) 71 2 (nI k3)) 72) 24)) 78 3 8) 79 3 (nI k3))) (s := 3) (b2 := 8) (b3 := (nI k3)) (Q := Q2) (by omega) ?_ 24 0 (by omega)
            · rw [sh_zc_0] at hp; exact hp
            · exact kk2 _ _ ⟨⟨n, c, t, tp, wt, s0, s1, p0, p1, H⟩, re_im_s hI, hE, (re_sh_l hS0 (s2 := 3) (by omega) 8 (nI k3)), (re_sh_l hS1 (s2 := 3) (by omega) 8 (nI k3)), (re_sh_l hS2 (s2 := 3) (by omega) 8 (nI k3)), (re_sh_n (l := k3) (v := 8) (by omega) (Or.inr (Or.inl rfl))), hT⟩
          · skip
            refine wp_run 2 (pc' := 82) (ls' := [.ref 0, .int 3, .int 8, .int x3, .int 1]) (st' := [.int 1, .ref 0]) rfl ?_
            refine wp_callV (o := 0) (as := [.int 1]) (rest := []) (els := [.ref 0, .int 1]) rfl rfl rfl rfl rfl rfl rfl rfl (by omega) ?_
            refine sp_refuse1 (by omega) ?_
            show am_wp L xs _ _ _ _ 85 [.ref 0, .int 3, .int 8, .int x3, .int 1] [.int (-1000000001)] (am_S b) (am_u h 73 1 (h 73 1 + 1)) _
            refine wp_ret rfl ?_
            refine kk _ _ _ (fun ms2 Q2 kk2 => ?_)
            refine wp_run 1 (pc' := 1) (ls' := [.ref 74, .int 3, .int 8, .int x3, am_du]) (st' := [.int 3]) rfl ?_
            refine wp_callS (as := [.int 3]) (rest := []) (els := [.int 3]) rfl rfl rfl rfl rfl rfl rfl rfl (by omega) ?_
            refine sp_m_isSheet (by omega) (fun _ _ _ => ?_) (fun q => absurd rfl (q 3 (by omega)))
            show am_wp L xs _ _ _ _ 4 [.ref 74, .int 3, .int 8, .int x3, am_du] [.int 1] (am_S b) (am_u h 73 1 (h 73 1 + 1)) _
            refine wp_if_f rfl (show ¬ ((1 : Int32) = 0) from by decide) ?_
            refine wp_run 1 (pc' := 8) (ls' := [.ref 74, .int 3, .int 8, .int x3, am_du]) (st' := [.int 8]) rfl ?_
            refine wp_if_f rfl (show ¬ ((8 : Int32) = 0) from by decide) ?_
            refine wp_run 2 (pc' := 14) (ls' := [.ref 74, .int 3, .int 8, .int x3, am_du]) (st' := [.int 8, .int 8]) rfl ?_
            refine wp_icmp_t rfl (show (8 : Int32) = 8 from by decide) ?_
            refine wp_run 1 (pc' := 37) (ls' := [.ref 74, .int 3, .int 8, .int x3, am_du]) (st' := [.int 8]) rfl ?_
            refine wp_if_f rfl (show ¬ ((8 : Int32) ≤ 0) from by decide) ?_
            refine wp_run 1 (pc' := 41) (ls' := [.ref 74, .int 3, .int 8, .int x3, am_du]) (st' := [.int x3]) rfl ?_
            refine wp_if_t rfl (show 0 ≤ x3 from cq65) ?_
            refine wp_run 1 (pc' := 52) (ls' := [.ref 74, .int 3, .int 8, .int x3, am_du]) (st' := [.int 8]) rfl ?_
            refine wp_if_f rfl (show ¬ ((8 : Int32) ≤ 0) from by decide) ?_
            refine wp_run 2 (pc' := 58) (ls' := [.ref 74, .int 3, .int 8, .int x3, am_du]) (st' := [.int 24, .int x3]) rfl ?_
            refine wp_icmp_f rfl (show ¬ (x3 ≤ 24) from cq77) ?_
            refine wp_run 2 (pc' := 64) (ls' := [.ref 74, .int 3, .int 8, .int x3, am_du]) (st' := [.int (-1000000001), .ref 74]) rfl ?_
            refine wp_callV (o := 74) (as := [.int (-1000000001)]) (rest := []) (els := [.ref 74, .int (-1000000001)]) rfl rfl rfl rfl rfl rfl rfl rfl (by omega) ?_
            refine sp_error1 ?_
            show am_wp L xs _ _ _ _ 67 [.ref 74, .int 3, .int 8, .int x3, am_du] [.int (-1000000001)] (am_S b) (am_u (am_u h 73 1 (h 73 1 + 1)) 77 1 ((am_u h 73 1 (h 73 1 + 1)) 77 1 + 1)) _
            refine wp_ret rfl ?_
            exact kk2 _ _ (re_err1 hR)
        · skip
          refine wp_run 2 (pc' := 70) (ls' := [.ref 0, .int 3, .int 8, .int x3, .int 1]) (st' := [.int 3, .ref 0]) rfl ?_
          refine wp_callV (o := 0) (as := [.int 3]) (rest := []) (els := [.ref 0, .int 3]) rfl rfl rfl rfl rfl rfl rfl rfl (by omega) ?_
          refine sp_refuse3 (by omega) ?_
          show am_wp L xs _ _ _ _ 73 [.ref 0, .int 3, .int 8, .int x3, .int 1] [.int (-1000000003)] (am_S b) (am_u h 73 3 (h 73 3 + 1)) _
          refine wp_ret rfl ?_
          refine kk _ _ _ (fun ms2 Q2 kk2 => ?_)
          refine wp_run 1 (pc' := 1) (ls' := [.ref 74, .int 3, .int 8, .int x3, am_du]) (st' := [.int 3]) rfl ?_
          refine wp_callS (as := [.int 3]) (rest := []) (els := [.int 3]) rfl rfl rfl rfl rfl rfl rfl rfl (by omega) ?_
          refine sp_m_isSheet (by omega) (fun _ _ _ => ?_) (fun q => absurd rfl (q 3 (by omega)))
          show am_wp L xs _ _ _ _ 4 [.ref 74, .int 3, .int 8, .int x3, am_du] [.int 1] (am_S b) (am_u h 73 3 (h 73 3 + 1)) _
          refine wp_if_f rfl (show ¬ ((1 : Int32) = 0) from by decide) ?_
          refine wp_run 1 (pc' := 8) (ls' := [.ref 74, .int 3, .int 8, .int x3, am_du]) (st' := [.int 8]) rfl ?_
          refine wp_if_f rfl (show ¬ ((8 : Int32) = 0) from by decide) ?_
          refine wp_run 2 (pc' := 14) (ls' := [.ref 74, .int 3, .int 8, .int x3, am_du]) (st' := [.int 8, .int 8]) rfl ?_
          refine wp_icmp_t rfl (show (8 : Int32) = 8 from by decide) ?_
          refine wp_run 1 (pc' := 37) (ls' := [.ref 74, .int 3, .int 8, .int x3, am_du]) (st' := [.int 8]) rfl ?_
          refine wp_if_f rfl (show ¬ ((8 : Int32) ≤ 0) from by decide) ?_
          refine wp_run 1 (pc' := 41) (ls' := [.ref 74, .int 3, .int 8, .int x3, am_du]) (st' := [.int x3]) rfl ?_
          refine wp_if_f rfl (show ¬ (0 ≤ x3) from cq65) ?_
          refine wp_run 2 (pc' := 47) (ls' := [.ref 74, .int 3, .int 8, .int x3, am_du]) (st' := [.int (-1000000003), .ref 74]) rfl ?_
          refine wp_callV (o := 74) (as := [.int (-1000000003)]) (rest := []) (els := [.ref 74, .int (-1000000003)]) rfl rfl rfl rfl rfl rfl rfl rfl (by omega) ?_
          refine sp_error3 ?_
          show am_wp L xs _ _ _ _ 50 [.ref 74, .int 3, .int 8, .int x3, am_du] [.int (-1000000003)] (am_S b) (am_u (am_u h 73 3 (h 73 3 + 1)) 77 3 ((am_u h 73 3 (h 73 3 + 1)) 77 3 + 1)) _
          refine wp_ret rfl ?_
          exact kk2 _ _ (re_err3 hR)
      · skip
        intro hnx1
        show am_wp L xs _ _ _ _ 33 [.ref 0, .int x1, .int 8, .int x3, .int 1] [.int 0] (am_S b) h _
        refine wp_if_t rfl (show (0 : Int32) = 0 from by decide) ?_
        refine wp_run 2 (pc' := 43) (ls' := [.ref 0, .int x1, .int 8, .int x3, .int 1]) (st' := [.int 1, .ref 0]) rfl ?_
        refine wp_callV (o := 0) (as := [.int 1]) (rest := []) (els := [.ref 0, .int 1]) rfl rfl rfl rfl rfl rfl rfl rfl (by omega) ?_
        refine sp_refuse1 (by omega) ?_
        show am_wp L xs _ _ _ _ 46 [.ref 0, .int x1, .int 8, .int x3, .int 1] [.int (-1000000001)] (am_S b) (am_u h 73 1 (h 73 1 + 1)) _
        refine wp_ret rfl ?_
        refine kk _ _ _ (fun ms2 Q2 kk2 => ?_)
        refine wp_run 1 (pc' := 1) (ls' := [.ref 74, .int x1, .int 8, .int x3, am_du]) (st' := [.int x1]) rfl ?_
        refine wp_callS (as := [.int x1]) (rest := []) (els := [.int x1]) rfl rfl rfl rfl rfl rfl rfl rfl (by omega) ?_
        refine sp_m_isSheet (by omega) (fun k hk e => absurd e (hnx1 k hk)) (fun _ => ?_)
        show am_wp L xs _ _ _ _ 4 [.ref 74, .int x1, .int 8, .int x3, am_du] [.int 0] (am_S b) (am_u h 73 1 (h 73 1 + 1)) _
        refine wp_if_t rfl (show (0 : Int32) = 0 from by decide) ?_
        refine wp_run 2 (pc' := 32) (ls' := [.ref 74, .int x1, .int 8, .int x3, am_du]) (st' := [.int (-1000000001), .ref 74]) rfl ?_
        refine wp_callV (o := 74) (as := [.int (-1000000001)]) (rest := []) (els := [.ref 74, .int (-1000000001)]) rfl rfl rfl rfl rfl rfl rfl rfl (by omega) ?_
        refine sp_error1 ?_
        show am_wp L xs _ _ _ _ 35 [.ref 74, .int x1, .int 8, .int x3, am_du] [.int (-1000000001)] (am_S b) (am_u (am_u h 73 1 (h 73 1 + 1)) 77 1 ((am_u h 73 1 (h 73 1 + 1)) 77 1 + 1)) _
        refine wp_ret rfl ?_
        exact kk2 _ _ (re_err1 hR)
    · skip
      refine wp_run 2 (pc' := 13) (ls' := [.ref 0, .int x1, .int x2, .int x3, am_du]) (st' := [.int 16, .int x2]) rfl ?_
      refine wp_icmp rfl (fun (cq13 : x2 = 16) => ?_) (fun (cq13 : ¬ (x2 = 16)) => ?_)
      · skip
        subst cq13
        refine wp_run 4 (pc' := 30) (ls' := [.ref 0, .int x1, .int 16, .int x3, .int 1]) (st' := [.int x1]) rfl ?_
        refine wp_callS (as := [.int x1]) (rest := []) (els := [.int x1]) rfl rfl rfl rfl rfl rfl rfl rfl (by omega) ?_
        refine sp_x_isSheet (by omega) (pu_four ?_ ?_ ?_ ?_) ?_
        · skip
          intro ex1
          subst ex1
          show am_wp L xs _ _ _ _ 33 [.ref 0, .int 0, .int 16, .int x3, .int 1] [.int 1] (am_S b) h _
          refine wp_if_f rfl (show ¬ ((1 : Int32) = 0) from by decide) ?_
          refine wp_run 1 (pc' := 38) (ls' := [.ref 0, .int 0, .int 16, .int x3, .int 1]) (st' := [.int 1]) rfl ?_
          refine wp_if_t rfl (show ¬ (1 : Int32) = 0 from by decide) ?_
          refine wp_run 1 (pc' := 48) (ls' := [.ref 0, .int 0, .int 16, .int x3, .int 1]) (st' := [.int 16]) rfl ?_
          refine wp_if_t rfl (show ¬ (16 : Int32) = 0 from by decide) ?_
          refine wp_run 1 (pc' := 65) (ls' := [.ref 0, .int 0, .int 16, .int x3, .int 1]) (st' := [.int x3]) rfl ?_
          refine wp_if rfl (fun (cq65 : 0 ≤ x3) => ?_) (fun (cq65 : ¬ (0 ≤ x3)) => ?_)
          · skip
            refine wp_run 2 (pc' := 77) (ls' := [.ref 0, .int 0, .int 16, .int x3, .int 1]) (st' := [.int 24, .int x3]) rfl ?_
            refine wp_icmp rfl (fun (cq77 : x3 ≤ 24) => ?_) (fun (cq77 : ¬ (x3 ≤ 24)) => ?_)
            · skip
              obtain ⟨k3, hk3, ek3⟩ := pu_of (m := 24) (by omega) cq65 cq77
              subst ek3
              refine wp_run 1 (pc' := 87) (ls' := [.ref 0, .int 0, .int 16, .int (nI k3), .int 1]) (st' := [.ref 0]) rfl ?_
              refine wp_getr 64 rfl rfl rfl ?_
              refine wp_run 1 (pc' := 91) (ls' := [.ref 0, .int 0, .int 16, .int (nI k3), .int 1]) (st' := [.int 0, .ref 64]) rfl ?_
              refine wp_aald (r := 65) rfl rfl (Or.inr rfl) rfl (by decide) rfl rfl ?_
              refine wp_run 2 (pc' := 94) (ls' := [.ref 0, .int 0, .int 16, .int (nI k3), .int 1]) (st' := [.int (nI k3), .int 16, .ref 65]) rfl ?_
              refine wp_callV (o := 65) (as := [.int 16, .int (nI k3)]) (rest := []) (els := [.ref 65, .int 16, .int (nI k3), am_du]) rfl rfl rfl rfl rfl rfl rfl rfl (by omega) ?_
              refine sp_lay (o := 65) rfl rfl rfl ?_
              show am_wp L xs _ _ _ _ 97 [.ref 0, .int 0, .int 16, .int (nI k3), .int 1] [] (am_S b) (am_ur (am_u (am_u h 65 1 16) 65 2 (nI k3)) 66 (sh_zf ((am_u (am_u h 65 1 16) 65 2 (nI k3)) 66) 24)) _
              refine wp_run 1 (pc' := 98) (ls' := [.ref 0, .int 0, .int 16, .int (nI k3), .int 1]) (st' := [.int 1]) rfl ?_
              refine wp_ret rfl ?_
              refine kk _ _ _ (fun ms2 Q2 kk2 => ?_)
              refine wp_run 1 (pc' := 1) (ls' := [.ref 74, .int 0, .int 16, .int (nI k3), am_du]) (st' := [.int 0]) rfl ?_
              refine wp_callS (as := [.int 0]) (rest := []) (els := [.int 0]) rfl rfl rfl rfl rfl rfl rfl rfl (by omega) ?_
              refine sp_m_isSheet (by omega) (fun _ _ _ => ?_) (fun q => absurd rfl (q 0 (by omega)))
              show am_wp L xs _ _ _ _ 4 [.ref 74, .int 0, .int 16, .int (nI k3), am_du] [.int 1] (am_S b) (am_ur (am_u (am_u h 65 1 16) 65 2 (nI k3)) 66 (sh_zf ((am_u (am_u h 65 1 16) 65 2 (nI k3)) 66) 24)) _
              refine wp_if_f rfl (show ¬ ((1 : Int32) = 0) from by decide) ?_
              refine wp_run 1 (pc' := 8) (ls' := [.ref 74, .int 0, .int 16, .int (nI k3), am_du]) (st' := [.int 16]) rfl ?_
              refine wp_if_f rfl (show ¬ ((16 : Int32) = 0) from by decide) ?_
              refine wp_run 2 (pc' := 14) (ls' := [.ref 74, .int 0, .int 16, .int (nI k3), am_du]) (st' := [.int 8, .int 16]) rfl ?_
              refine wp_icmp_f rfl (show ¬ ((16 : Int32) = 8) from by decide) ?_
              refine wp_run 2 (pc' := 20) (ls' := [.ref 74, .int 0, .int 16, .int (nI k3), am_du]) (st' := [.int 16, .int 16]) rfl ?_
              refine wp_icmp_t rfl (show (16 : Int32) = 16 from by decide) ?_
              refine wp_run 1 (pc' := 37) (ls' := [.ref 74, .int 0, .int 16, .int (nI k3), am_du]) (st' := [.int 16]) rfl ?_
              refine wp_if_f rfl (show ¬ ((16 : Int32) ≤ 0) from by decide) ?_
              refine wp_run 1 (pc' := 41) (ls' := [.ref 74, .int 0, .int 16, .int (nI k3), am_du]) (st' := [.int (nI k3)]) rfl ?_
              refine wp_if_t rfl (show 0 ≤ (nI k3) from (nI_leI (a := 0) (b := k3) (by omega) (by omega)).mpr (by omega)) ?_
              refine wp_run 1 (pc' := 52) (ls' := [.ref 74, .int 0, .int 16, .int (nI k3), am_du]) (st' := [.int 16]) rfl ?_
              refine wp_if_f rfl (show ¬ ((16 : Int32) ≤ 0) from by decide) ?_
              refine wp_run 2 (pc' := 58) (ls' := [.ref 74, .int 0, .int 16, .int (nI k3), am_du]) (st' := [.int 24, .int (nI k3)]) rfl ?_
              refine wp_icmp_t rfl (show (nI k3) ≤ 24 from (nI_leI (a := k3) (b := 24) (by omega) (by omega)).mpr (by omega)) ?_
              refine wp_run 1 (pc' := 69) (ls' := [.ref 74, .int 0, .int 16, .int (nI k3), am_du]) (st' := [.ref 74]) rfl ?_
              refine wp_getr 78 rfl rfl rfl ?_
              refine wp_run 2 (pc' := 74) (ls' := [.ref 74, .int 0, .int 16, .int (nI k3), am_du]) (st' := [.int 16, .int 0, .ref 78]) rfl ?_
              refine wp_ast rfl rfl rfl (by decide) rfl ?_
              refine wp_run 1 (pc' := 76) (ls' := [.ref 74, .int 0, .int 16, .int (nI k3), am_du]) (st' := [.ref 74]) rfl ?_
              refine wp_getr 79 rfl rfl rfl ?_
              refine wp_run 2 (pc' := 81) (ls' := [.ref 74, .int 0, .int 16, .int (nI k3), am_du]) (st' := [.int 16, .int 0, .ref 79]) rfl ?_
              refine wp_if_t rfl (show ¬ (16 : Int32) = 0 from by decide) ?_
              refine wp_run 1 (pc' := 89) (ls' := [.ref 74, .int 0, .int 16, .int (nI k3), am_du]) (st' := [.int (nI k3), .int 0, .ref 79]) rfl ?_
              refine wp_ast rfl rfl rfl (by decide) rfl ?_
              refine wp_run 2 (pc' := 93) (ls' := [.ref 74, .int 0, .int 16, .int (nI k3), .int 0]) (st' := []) rfl ?_
              have hp := lp_sheet (L := L) (xs := xs) (d := d) (ms := ms2) (b := b) (h := (am_u (am_u (am_ur (am_u (am_u h 65 1 16) 65 2 (nI k3)) 66 (sh_zf ((am_u (am_u h 65 1 16) 65 2 (nI k3)) 66) 24)) 78 0 16) 79 0 (nI k3))) (s := 0) (b2 := 16) (b3 := (nI k3)) (Q := Q2) (by omega) ?_ 24 0 (by omega)
              · rw [sh_zc_0] at hp; exact hp
              · exact kk2 _ _ ⟨⟨n, c, t, tp, wt, s0, s1, p0, p1, H⟩, re_im_s hI, hE, (re_sh_n (l := k3) (v := 16) (by omega) (Or.inr (Or.inr (Or.inl rfl)))), (re_sh_l hS1 (s2 := 0) (by omega) 16 (nI k3)), (re_sh_l hS2 (s2 := 0) (by omega) 16 (nI k3)), (re_sh_l hS3 (s2 := 0) (by omega) 16 (nI k3)), hT⟩
            · skip
              refine wp_run 2 (pc' := 82) (ls' := [.ref 0, .int 0, .int 16, .int x3, .int 1]) (st' := [.int 1, .ref 0]) rfl ?_
              refine wp_callV (o := 0) (as := [.int 1]) (rest := []) (els := [.ref 0, .int 1]) rfl rfl rfl rfl rfl rfl rfl rfl (by omega) ?_
              refine sp_refuse1 (by omega) ?_
              show am_wp L xs _ _ _ _ 85 [.ref 0, .int 0, .int 16, .int x3, .int 1] [.int (-1000000001)] (am_S b) (am_u h 73 1 (h 73 1 + 1)) _
              refine wp_ret rfl ?_
              refine kk _ _ _ (fun ms2 Q2 kk2 => ?_)
              refine wp_run 1 (pc' := 1) (ls' := [.ref 74, .int 0, .int 16, .int x3, am_du]) (st' := [.int 0]) rfl ?_
              refine wp_callS (as := [.int 0]) (rest := []) (els := [.int 0]) rfl rfl rfl rfl rfl rfl rfl rfl (by omega) ?_
              refine sp_m_isSheet (by omega) (fun _ _ _ => ?_) (fun q => absurd rfl (q 0 (by omega)))
              show am_wp L xs _ _ _ _ 4 [.ref 74, .int 0, .int 16, .int x3, am_du] [.int 1] (am_S b) (am_u h 73 1 (h 73 1 + 1)) _
              refine wp_if_f rfl (show ¬ ((1 : Int32) = 0) from by decide) ?_
              refine wp_run 1 (pc' := 8) (ls' := [.ref 74, .int 0, .int 16, .int x3, am_du]) (st' := [.int 16]) rfl ?_
              refine wp_if_f rfl (show ¬ ((16 : Int32) = 0) from by decide) ?_
              refine wp_run 2 (pc' := 14) (ls' := [.ref 74, .int 0, .int 16, .int x3, am_du]) (st' := [.int 8, .int 16]) rfl ?_
              refine wp_icmp_f rfl (show ¬ ((16 : Int32) = 8) from by decide) ?_
              refine wp_run 2 (pc' := 20) (ls' := [.ref 74, .int 0, .int 16, .int x3, am_du]) (st' := [.int 16, .int 16]) rfl ?_
              refine wp_icmp_t rfl (show (16 : Int32) = 16 from by decide) ?_
              refine wp_run 1 (pc' := 37) (ls' := [.ref 74, .int 0, .int 16, .int x3, am_du]) (st' := [.int 16]) rfl ?_
              refine wp_if_f rfl (show ¬ ((16 : Int32) ≤ 0) from by decide) ?_
              refine wp_run 1 (pc' := 41) (ls' := [.ref 74, .int 0, .int 16, .int x3, am_du]) (st' := [.int x3]) rfl ?_
              refine wp_if_t rfl (show 0 ≤ x3 from cq65) ?_
              refine wp_run 1 (pc' := 52) (ls' := [.ref 74, .int 0, .int 16, .int x3, am_du]) (st' := [.int 16]) rfl ?_
              refine wp_if_f rfl (show ¬ ((16 : Int32) ≤ 0) from by decide) ?_
              refine wp_run 2 (pc' := 58) (ls' := [.ref 74, .int 0, .int 16, .int x3, am_du]) (st' := [.int 24, .int x3]) rfl ?_
              refine wp_icmp_f rfl (show ¬ (x3 ≤ 24) from cq77) ?_
              refine wp_run 2 (pc' := 64) (ls' := [.ref 74, .int 0, .int 16, .int x3, am_du]) (st' := [.int (-1000000001), .ref 74]) rfl ?_
              refine wp_callV (o := 74) (as := [.int (-1000000001)]) (rest := []) (els := [.ref 74, .int (-1000000001)]) rfl rfl rfl rfl rfl rfl rfl rfl (by omega) ?_
              refine sp_error1 ?_
              show am_wp L xs _ _ _ _ 67 [.ref 74, .int 0, .int 16, .int x3, am_du] [.int (-1000000001)] (am_S b) (am_u (am_u h 73 1 (h 73 1 + 1)) 77 1 ((am_u h 73 1 (h 73 1 + 1)) 77 1 + 1)) _
              refine wp_ret rfl ?_
              exact kk2 _ _ (re_err1 hR)
          · skip
            refine wp_run 2 (pc' := 70) (ls' := [.ref 0, .int 0, .int 16, .int x3, .int 1]) (st' := [.int 3, .ref 0]) rfl ?_
            refine wp_callV (o := 0) (as := [.int 3]) (rest := []) (els := [.ref 0, .int 3]) rfl rfl rfl rfl rfl rfl rfl rfl (by omega) ?_
            refine sp_refuse3 (by omega) ?_
            show am_wp L xs _ _ _ _ 73 [.ref 0, .int 0, .int 16, .int x3, .int 1] [.int (-1000000003)] (am_S b) (am_u h 73 3 (h 73 3 + 1)) _
            refine wp_ret rfl ?_
            refine kk _ _ _ (fun ms2 Q2 kk2 => ?_)
            refine wp_run 1 (pc' := 1) (ls' := [.ref 74, .int 0, .int 16, .int x3, am_du]) (st' := [.int 0]) rfl ?_
            refine wp_callS (as := [.int 0]) (rest := []) (els := [.int 0]) rfl rfl rfl rfl rfl rfl rfl rfl (by omega) ?_
            refine sp_m_isSheet (by omega) (fun _ _ _ => ?_) (fun q => absurd rfl (q 0 (by omega)))
            show am_wp L xs _ _ _ _ 4 [.ref 74, .int 0, .int 16, .int x3, am_du] [.int 1] (am_S b) (am_u h 73 3 (h 73 3 + 1)) _
            refine wp_if_f rfl (show ¬ ((1 : Int32) = 0) from by decide) ?_
            refine wp_run 1 (pc' := 8) (ls' := [.ref 74, .int 0, .int 16, .int x3, am_du]) (st' := [.int 16]) rfl ?_
            refine wp_if_f rfl (show ¬ ((16 : Int32) = 0) from by decide) ?_
            refine wp_run 2 (pc' := 14) (ls' := [.ref 74, .int 0, .int 16, .int x3, am_du]) (st' := [.int 8, .int 16]) rfl ?_
            refine wp_icmp_f rfl (show ¬ ((16 : Int32) = 8) from by decide) ?_
            refine wp_run 2 (pc' := 20) (ls' := [.ref 74, .int 0, .int 16, .int x3, am_du]) (st' := [.int 16, .int 16]) rfl ?_
            refine wp_icmp_t rfl (show (16 : Int32) = 16 from by decide) ?_
            refine wp_run 1 (pc' := 37) (ls' := [.ref 74, .int 0, .int 16, .int x3, am_du]) (st' := [.int 16]) rfl ?_
            refine wp_if_f rfl (show ¬ ((16 : Int32) ≤ 0) from by decide) ?_
            refine wp_run 1 (pc' := 41) (ls' := [.ref 74, .int 0, .int 16, .int x3, am_du]) (st' := [.int x3]) rfl ?_
            refine wp_if_f rfl (show ¬ (0 ≤ x3) from cq65) ?_
            refine wp_run 2 (pc' := 47) (ls' := [.ref 74, .int 0, .int 16, .int x3, am_du]) (st' := [.int (-1000000003), .ref 74]) rfl ?_
            refine wp_callV (o := 74) (as := [.int (-1000000003)]) (rest := []) (els := [.ref 74, .int (-1000000003)]) rfl rfl rfl rfl rfl rfl rfl rfl (by omega) ?_
            refine sp_error3 ?_
            show am_wp L xs _ _ _ _ 50 [.ref 74, .int 0, .int 16, .int x3, am_du] [.int (-1000000003)] (am_S b) (am_u (am_u h 73 3 (h 73 3 + 1)) 77 3 ((am_u h 73 3 (h 73 3 + 1)) 77 3 + 1)) _
            refine wp_ret rfl ?_
            exact kk2 _ _ (re_err3 hR)
        · skip
          intro ex1
          subst ex1
          show am_wp L xs _ _ _ _ 33 [.ref 0, .int 1, .int 16, .int x3, .int 1] [.int 1] (am_S b) h _
          refine wp_if_f rfl (show ¬ ((1 : Int32) = 0) from by decide) ?_
          refine wp_run 1 (pc' := 38) (ls' := [.ref 0, .int 1, .int 16, .int x3, .int 1]) (st' := [.int 1]) rfl ?_
          refine wp_if_t rfl (show ¬ (1 : Int32) = 0 from by decide) ?_
          refine wp_run 1 (pc' := 48) (ls' := [.ref 0, .int 1, .int 16, .int x3, .int 1]) (st' := [.int 16]) rfl ?_
          refine wp_if_t rfl (show ¬ (16 : Int32) = 0 from by decide) ?_
          refine wp_run 1 (pc' := 65) (ls' := [.ref 0, .int 1, .int 16, .int x3, .int 1]) (st' := [.int x3]) rfl ?_
          refine wp_if rfl (fun (cq65 : 0 ≤ x3) => ?_) (fun (cq65 : ¬ (0 ≤ x3)) => ?_)
          · skip
            refine wp_run 2 (pc' := 77) (ls' := [.ref 0, .int 1, .int 16, .int x3, .int 1]) (st' := [.int 24, .int x3]) rfl ?_
            refine wp_icmp rfl (fun (cq77 : x3 ≤ 24) => ?_) (fun (cq77 : ¬ (x3 ≤ 24)) => ?_)
            · skip
              obtain ⟨k3, hk3, ek3⟩ := pu_of (m := 24) (by omega) cq65 cq77
              subst ek3
              refine wp_run 1 (pc' := 87) (ls' := [.ref 0, .int 1, .int 16, .int (nI k3), .int 1]) (st' := [.ref 0]) rfl ?_
              refine wp_getr 64 rfl rfl rfl ?_
              refine wp_run 1 (pc' := 91) (ls' := [.ref 0, .int 1, .int 16, .int (nI k3), .int 1]) (st' := [.int 1, .ref 64]) rfl ?_
              refine wp_aald (r := 67) rfl rfl (Or.inr rfl) rfl (by decide) rfl rfl ?_
              refine wp_run 2 (pc' := 94) (ls' := [.ref 0, .int 1, .int 16, .int (nI k3), .int 1]) (st' := [.int (nI k3), .int 16, .ref 67]) rfl ?_
              refine wp_callV (o := 67) (as := [.int 16, .int (nI k3)]) (rest := []) (els := [.ref 67, .int 16, .int (nI k3), am_du]) rfl rfl rfl rfl rfl rfl rfl rfl (by omega) ?_
              refine sp_lay (o := 67) rfl rfl rfl ?_
              show am_wp L xs _ _ _ _ 97 [.ref 0, .int 1, .int 16, .int (nI k3), .int 1] [] (am_S b) (am_ur (am_u (am_u h 67 1 16) 67 2 (nI k3)) 68 (sh_zf ((am_u (am_u h 67 1 16) 67 2 (nI k3)) 68) 24)) _
              refine wp_run 1 (pc' := 98) (ls' := [.ref 0, .int 1, .int 16, .int (nI k3), .int 1]) (st' := [.int 1]) rfl ?_
              refine wp_ret rfl ?_
              refine kk _ _ _ (fun ms2 Q2 kk2 => ?_)
              refine wp_run 1 (pc' := 1) (ls' := [.ref 74, .int 1, .int 16, .int (nI k3), am_du]) (st' := [.int 1]) rfl ?_
              refine wp_callS (as := [.int 1]) (rest := []) (els := [.int 1]) rfl rfl rfl rfl rfl rfl rfl rfl (by omega) ?_
              refine sp_m_isSheet (by omega) (fun _ _ _ => ?_) (fun q => absurd rfl (q 1 (by omega)))
              show am_wp L xs _ _ _ _ 4 [.ref 74, .int 1, .int 16, .int (nI k3), am_du] [.int 1] (am_S b) (am_ur (am_u (am_u h 67 1 16) 67 2 (nI k3)) 68 (sh_zf ((am_u (am_u h 67 1 16) 67 2 (nI k3)) 68) 24)) _
              refine wp_if_f rfl (show ¬ ((1 : Int32) = 0) from by decide) ?_
              refine wp_run 1 (pc' := 8) (ls' := [.ref 74, .int 1, .int 16, .int (nI k3), am_du]) (st' := [.int 16]) rfl ?_
              refine wp_if_f rfl (show ¬ ((16 : Int32) = 0) from by decide) ?_
              refine wp_run 2 (pc' := 14) (ls' := [.ref 74, .int 1, .int 16, .int (nI k3), am_du]) (st' := [.int 8, .int 16]) rfl ?_
              refine wp_icmp_f rfl (show ¬ ((16 : Int32) = 8) from by decide) ?_
              refine wp_run 2 (pc' := 20) (ls' := [.ref 74, .int 1, .int 16, .int (nI k3), am_du]) (st' := [.int 16, .int 16]) rfl ?_
              refine wp_icmp_t rfl (show (16 : Int32) = 16 from by decide) ?_
              refine wp_run 1 (pc' := 37) (ls' := [.ref 74, .int 1, .int 16, .int (nI k3), am_du]) (st' := [.int 16]) rfl ?_
              refine wp_if_f rfl (show ¬ ((16 : Int32) ≤ 0) from by decide) ?_
              refine wp_run 1 (pc' := 41) (ls' := [.ref 74, .int 1, .int 16, .int (nI k3), am_du]) (st' := [.int (nI k3)]) rfl ?_
              refine wp_if_t rfl (show 0 ≤ (nI k3) from (nI_leI (a := 0) (b := k3) (by omega) (by omega)).mpr (by omega)) ?_
              refine wp_run 1 (pc' := 52) (ls' := [.ref 74, .int 1, .int 16, .int (nI k3), am_du]) (st' := [.int 16]) rfl ?_
              refine wp_if_f rfl (show ¬ ((16 : Int32) ≤ 0) from by decide) ?_
              refine wp_run 2 (pc' := 58) (ls' := [.ref 74, .int 1, .int 16, .int (nI k3), am_du]) (st' := [.int 24, .int (nI k3)]) rfl ?_
              refine wp_icmp_t rfl (show (nI k3) ≤ 24 from (nI_leI (a := k3) (b := 24) (by omega) (by omega)).mpr (by omega)) ?_
              refine wp_run 1 (pc' := 69) (ls' := [.ref 74, .int 1, .int 16, .int (nI k3), am_du]) (st' := [.ref 74]) rfl ?_
              refine wp_getr 78 rfl rfl rfl ?_
              refine wp_run 2 (pc' := 74) (ls' := [.ref 74, .int 1, .int 16, .int (nI k3), am_du]) (st' := [.int 16, .int 1, .ref 78]) rfl ?_
              refine wp_ast rfl rfl rfl (by decide) rfl ?_
              refine wp_run 1 (pc' := 76) (ls' := [.ref 74, .int 1, .int 16, .int (nI k3), am_du]) (st' := [.ref 74]) rfl ?_
              refine wp_getr 79 rfl rfl rfl ?_
              refine wp_run 2 (pc' := 81) (ls' := [.ref 74, .int 1, .int 16, .int (nI k3), am_du]) (st' := [.int 16, .int 1, .ref 79]) rfl ?_
              refine wp_if_t rfl (show ¬ (16 : Int32) = 0 from by decide) ?_
              refine wp_run 1 (pc' := 89) (ls' := [.ref 74, .int 1, .int 16, .int (nI k3), am_du]) (st' := [.int (nI k3), .int 1, .ref 79]) rfl ?_
              refine wp_ast rfl rfl rfl (by decide) rfl ?_
              refine wp_run 2 (pc' := 93) (ls' := [.ref 74, .int 1, .int 16, .int (nI k3), .int 0]) (st' := []) rfl ?_
              have hp := lp_sheet (L := L) (xs := xs) (d := d) (ms := ms2) (b := b) (h := (am_u (am_u (am_ur (am_u (am_u h 67 1 16) 67 2 (nI k3)) 68 (sh_zf ((am_u (am_u h 67 1 16) 67 2 (nI k3)) 68) 24)) 78 1 16) 79 1 (nI k3))) (s := 1) (b2 := 16) (b3 := (nI k3)) (Q := Q2) (by omega) ?_ 24 0 (by omega)
              · rw [sh_zc_0] at hp; exact hp
              · exact kk2 _ _ ⟨⟨n, c, t, tp, wt, s0, s1, p0, p1, H⟩, re_im_s hI, hE, (re_sh_l hS0 (s2 := 1) (by omega) 16 (nI k3)), (re_sh_n (l := k3) (v := 16) (by omega) (Or.inr (Or.inr (Or.inl rfl)))), (re_sh_l hS2 (s2 := 1) (by omega) 16 (nI k3)), (re_sh_l hS3 (s2 := 1) (by omega) 16 (nI k3)), hT⟩
            · skip
              refine wp_run 2 (pc' := 82) (ls' := [.ref 0, .int 1, .int 16, .int x3, .int 1]) (st' := [.int 1, .ref 0]) rfl ?_
              refine wp_callV (o := 0) (as := [.int 1]) (rest := []) (els := [.ref 0, .int 1]) rfl rfl rfl rfl rfl rfl rfl rfl (by omega) ?_
              refine sp_refuse1 (by omega) ?_
              show am_wp L xs _ _ _ _ 85 [.ref 0, .int 1, .int 16, .int x3, .int 1] [.int (-1000000001)] (am_S b) (am_u h 73 1 (h 73 1 + 1)) _
              refine wp_ret rfl ?_
              refine kk _ _ _ (fun ms2 Q2 kk2 => ?_)
              refine wp_run 1 (pc' := 1) (ls' := [.ref 74, .int 1, .int 16, .int x3, am_du]) (st' := [.int 1]) rfl ?_
              refine wp_callS (as := [.int 1]) (rest := []) (els := [.int 1]) rfl rfl rfl rfl rfl rfl rfl rfl (by omega) ?_
              refine sp_m_isSheet (by omega) (fun _ _ _ => ?_) (fun q => absurd rfl (q 1 (by omega)))
              show am_wp L xs _ _ _ _ 4 [.ref 74, .int 1, .int 16, .int x3, am_du] [.int 1] (am_S b) (am_u h 73 1 (h 73 1 + 1)) _
              refine wp_if_f rfl (show ¬ ((1 : Int32) = 0) from by decide) ?_
              refine wp_run 1 (pc' := 8) (ls' := [.ref 74, .int 1, .int 16, .int x3, am_du]) (st' := [.int 16]) rfl ?_
              refine wp_if_f rfl (show ¬ ((16 : Int32) = 0) from by decide) ?_
              refine wp_run 2 (pc' := 14) (ls' := [.ref 74, .int 1, .int 16, .int x3, am_du]) (st' := [.int 8, .int 16]) rfl ?_
              refine wp_icmp_f rfl (show ¬ ((16 : Int32) = 8) from by decide) ?_
              refine wp_run 2 (pc' := 20) (ls' := [.ref 74, .int 1, .int 16, .int x3, am_du]) (st' := [.int 16, .int 16]) rfl ?_
              refine wp_icmp_t rfl (show (16 : Int32) = 16 from by decide) ?_
              refine wp_run 1 (pc' := 37) (ls' := [.ref 74, .int 1, .int 16, .int x3, am_du]) (st' := [.int 16]) rfl ?_
              refine wp_if_f rfl (show ¬ ((16 : Int32) ≤ 0) from by decide) ?_
              refine wp_run 1 (pc' := 41) (ls' := [.ref 74, .int 1, .int 16, .int x3, am_du]) (st' := [.int x3]) rfl ?_
              refine wp_if_t rfl (show 0 ≤ x3 from cq65) ?_
              refine wp_run 1 (pc' := 52) (ls' := [.ref 74, .int 1, .int 16, .int x3, am_du]) (st' := [.int 16]) rfl ?_
              refine wp_if_f rfl (show ¬ ((16 : Int32) ≤ 0) from by decide) ?_
              refine wp_run 2 (pc' := 58) (ls' := [.ref 74, .int 1, .int 16, .int x3, am_du]) (st' := [.int 24, .int x3]) rfl ?_
              refine wp_icmp_f rfl (show ¬ (x3 ≤ 24) from cq77) ?_
              refine wp_run 2 (pc' := 64) (ls' := [.ref 74, .int 1, .int 16, .int x3, am_du]) (st' := [.int (-1000000001), .ref 74]) rfl ?_
              refine wp_callV (o := 74) (as := [.int (-1000000001)]) (rest := []) (els := [.ref 74, .int (-1000000001)]) rfl rfl rfl rfl rfl rfl rfl rfl (by omega) ?_
              refine sp_error1 ?_
              show am_wp L xs _ _ _ _ 67 [.ref 74, .int 1, .int 16, .int x3, am_du] [.int (-1000000001)] (am_S b) (am_u (am_u h 73 1 (h 73 1 + 1)) 77 1 ((am_u h 73 1 (h 73 1 + 1)) 77 1 + 1)) _
              refine wp_ret rfl ?_
              exact kk2 _ _ (re_err1 hR)
          · skip
            refine wp_run 2 (pc' := 70) (ls' := [.ref 0, .int 1, .int 16, .int x3, .int 1]) (st' := [.int 3, .ref 0]) rfl ?_
            refine wp_callV (o := 0) (as := [.int 3]) (rest := []) (els := [.ref 0, .int 3]) rfl rfl rfl rfl rfl rfl rfl rfl (by omega) ?_
            refine sp_refuse3 (by omega) ?_
            show am_wp L xs _ _ _ _ 73 [.ref 0, .int 1, .int 16, .int x3, .int 1] [.int (-1000000003)] (am_S b) (am_u h 73 3 (h 73 3 + 1)) _
            refine wp_ret rfl ?_
            refine kk _ _ _ (fun ms2 Q2 kk2 => ?_)
            refine wp_run 1 (pc' := 1) (ls' := [.ref 74, .int 1, .int 16, .int x3, am_du]) (st' := [.int 1]) rfl ?_
            refine wp_callS (as := [.int 1]) (rest := []) (els := [.int 1]) rfl rfl rfl rfl rfl rfl rfl rfl (by omega) ?_
            refine sp_m_isSheet (by omega) (fun _ _ _ => ?_) (fun q => absurd rfl (q 1 (by omega)))
            show am_wp L xs _ _ _ _ 4 [.ref 74, .int 1, .int 16, .int x3, am_du] [.int 1] (am_S b) (am_u h 73 3 (h 73 3 + 1)) _
            refine wp_if_f rfl (show ¬ ((1 : Int32) = 0) from by decide) ?_
            refine wp_run 1 (pc' := 8) (ls' := [.ref 74, .int 1, .int 16, .int x3, am_du]) (st' := [.int 16]) rfl ?_
            refine wp_if_f rfl (show ¬ ((16 : Int32) = 0) from by decide) ?_
            refine wp_run 2 (pc' := 14) (ls' := [.ref 74, .int 1, .int 16, .int x3, am_du]) (st' := [.int 8, .int 16]) rfl ?_
            refine wp_icmp_f rfl (show ¬ ((16 : Int32) = 8) from by decide) ?_
            refine wp_run 2 (pc' := 20) (ls' := [.ref 74, .int 1, .int 16, .int x3, am_du]) (st' := [.int 16, .int 16]) rfl ?_
            refine wp_icmp_t rfl (show (16 : Int32) = 16 from by decide) ?_
            refine wp_run 1 (pc' := 37) (ls' := [.ref 74, .int 1, .int 16, .int x3, am_du]) (st' := [.int 16]) rfl ?_
            refine wp_if_f rfl (show ¬ ((16 : Int32) ≤ 0) from by decide) ?_
            refine wp_run 1 (pc' := 41) (ls' := [.ref 74, .int 1, .int 16, .int x3, am_du]) (st' := [.int x3]) rfl ?_
            refine wp_if_f rfl (show ¬ (0 ≤ x3) from cq65) ?_
            refine wp_run 2 (pc' := 47) (ls' := [.ref 74, .int 1, .int 16, .int x3, am_du]) (st' := [.int (-1000000003), .ref 74]) rfl ?_
            refine wp_callV (o := 74) (as := [.int (-1000000003)]) (rest := []) (els := [.ref 74, .int (-1000000003)]) rfl rfl rfl rfl rfl rfl rfl rfl (by omega) ?_
            refine sp_error3 ?_
            show am_wp L xs _ _ _ _ 50 [.ref 74, .int 1, .int 16, .int x3, am_du] [.int (-1000000003)] (am_S b) (am_u (am_u h 73 3 (h 73 3 + 1)) 77 3 ((am_u h 73 3 (h 73 3 + 1)) 77 3 + 1)) _
            refine wp_ret rfl ?_
            exact kk2 _ _ (re_err3 hR)
        · skip
          intro ex1
          subst ex1
          show am_wp L xs _ _ _ _ 33 [.ref 0, .int 2, .int 16, .int x3, .int 1] [.int 1] (am_S b) h _
          refine wp_if_f rfl (show ¬ ((1 : Int32) = 0) from by decide) ?_
          refine wp_run 1 (pc' := 38) (ls' := [.ref 0, .int 2, .int 16, .int x3, .int 1]) (st' := [.int 1]) rfl ?_
          refine wp_if_t rfl (show ¬ (1 : Int32) = 0 from by decide) ?_
          refine wp_run 1 (pc' := 48) (ls' := [.ref 0, .int 2, .int 16, .int x3, .int 1]) (st' := [.int 16]) rfl ?_
          refine wp_if_t rfl (show ¬ (16 : Int32) = 0 from by decide) ?_
          refine wp_run 1 (pc' := 65) (ls' := [.ref 0, .int 2, .int 16, .int x3, .int 1]) (st' := [.int x3]) rfl ?_
          refine wp_if rfl (fun (cq65 : 0 ≤ x3) => ?_) (fun (cq65 : ¬ (0 ≤ x3)) => ?_)
          · skip
            refine wp_run 2 (pc' := 77) (ls' := [.ref 0, .int 2, .int 16, .int x3, .int 1]) (st' := [.int 24, .int x3]) rfl ?_
            refine wp_icmp rfl (fun (cq77 : x3 ≤ 24) => ?_) (fun (cq77 : ¬ (x3 ≤ 24)) => ?_)
            · skip
              obtain ⟨k3, hk3, ek3⟩ := pu_of (m := 24) (by omega) cq65 cq77
              subst ek3
              refine wp_run 1 (pc' := 87) (ls' := [.ref 0, .int 2, .int 16, .int (nI k3), .int 1]) (st' := [.ref 0]) rfl ?_
              refine wp_getr 64 rfl rfl rfl ?_
              refine wp_run 1 (pc' := 91) (ls' := [.ref 0, .int 2, .int 16, .int (nI k3), .int 1]) (st' := [.int 2, .ref 64]) rfl ?_
              refine wp_aald (r := 69) rfl rfl (Or.inr rfl) rfl (by decide) rfl rfl ?_
              refine wp_run 2 (pc' := 94) (ls' := [.ref 0, .int 2, .int 16, .int (nI k3), .int 1]) (st' := [.int (nI k3), .int 16, .ref 69]) rfl ?_
              refine wp_callV (o := 69) (as := [.int 16, .int (nI k3)]) (rest := []) (els := [.ref 69, .int 16, .int (nI k3), am_du]) rfl rfl rfl rfl rfl rfl rfl rfl (by omega) ?_
              refine sp_lay (o := 69) rfl rfl rfl ?_
              show am_wp L xs _ _ _ _ 97 [.ref 0, .int 2, .int 16, .int (nI k3), .int 1] [] (am_S b) (am_ur (am_u (am_u h 69 1 16) 69 2 (nI k3)) 70 (sh_zf ((am_u (am_u h 69 1 16) 69 2 (nI k3)) 70) 24)) _
              refine wp_run 1 (pc' := 98) (ls' := [.ref 0, .int 2, .int 16, .int (nI k3), .int 1]) (st' := [.int 1]) rfl ?_
              refine wp_ret rfl ?_
              refine kk _ _ _ (fun ms2 Q2 kk2 => ?_)
              refine wp_run 1 (pc' := 1) (ls' := [.ref 74, .int 2, .int 16, .int (nI k3), am_du]) (st' := [.int 2]) rfl ?_
              refine wp_callS (as := [.int 2]) (rest := []) (els := [.int 2]) rfl rfl rfl rfl rfl rfl rfl rfl (by omega) ?_
              refine sp_m_isSheet (by omega) (fun _ _ _ => ?_) (fun q => absurd rfl (q 2 (by omega)))
              show am_wp L xs _ _ _ _ 4 [.ref 74, .int 2, .int 16, .int (nI k3), am_du] [.int 1] (am_S b) (am_ur (am_u (am_u h 69 1 16) 69 2 (nI k3)) 70 (sh_zf ((am_u (am_u h 69 1 16) 69 2 (nI k3)) 70) 24)) _
              refine wp_if_f rfl (show ¬ ((1 : Int32) = 0) from by decide) ?_
              refine wp_run 1 (pc' := 8) (ls' := [.ref 74, .int 2, .int 16, .int (nI k3), am_du]) (st' := [.int 16]) rfl ?_
              refine wp_if_f rfl (show ¬ ((16 : Int32) = 0) from by decide) ?_
              refine wp_run 2 (pc' := 14) (ls' := [.ref 74, .int 2, .int 16, .int (nI k3), am_du]) (st' := [.int 8, .int 16]) rfl ?_
              refine wp_icmp_f rfl (show ¬ ((16 : Int32) = 8) from by decide) ?_
              refine wp_run 2 (pc' := 20) (ls' := [.ref 74, .int 2, .int 16, .int (nI k3), am_du]) (st' := [.int 16, .int 16]) rfl ?_
              refine wp_icmp_t rfl (show (16 : Int32) = 16 from by decide) ?_
              refine wp_run 1 (pc' := 37) (ls' := [.ref 74, .int 2, .int 16, .int (nI k3), am_du]) (st' := [.int 16]) rfl ?_
              refine wp_if_f rfl (show ¬ ((16 : Int32) ≤ 0) from by decide) ?_
              refine wp_run 1 (pc' := 41) (ls' := [.ref 74, .int 2, .int 16, .int (nI k3), am_du]) (st' := [.int (nI k3)]) rfl ?_
              refine wp_if_t rfl (show 0 ≤ (nI k3) from (nI_leI (a := 0) (b := k3) (by omega) (by omega)).mpr (by omega)) ?_
              refine wp_run 1 (pc' := 52) (ls' := [.ref 74, .int 2, .int 16, .int (nI k3), am_du]) (st' := [.int 16]) rfl ?_
              refine wp_if_f rfl (show ¬ ((16 : Int32) ≤ 0) from by decide) ?_
              refine wp_run 2 (pc' := 58) (ls' := [.ref 74, .int 2, .int 16, .int (nI k3), am_du]) (st' := [.int 24, .int (nI k3)]) rfl ?_
              refine wp_icmp_t rfl (show (nI k3) ≤ 24 from (nI_leI (a := k3) (b := 24) (by omega) (by omega)).mpr (by omega)) ?_
              refine wp_run 1 (pc' := 69) (ls' := [.ref 74, .int 2, .int 16, .int (nI k3), am_du]) (st' := [.ref 74]) rfl ?_
              refine wp_getr 78 rfl rfl rfl ?_
              refine wp_run 2 (pc' := 74) (ls' := [.ref 74, .int 2, .int 16, .int (nI k3), am_du]) (st' := [.int 16, .int 2, .ref 78]) rfl ?_
              refine wp_ast rfl rfl rfl (by decide) rfl ?_
              refine wp_run 1 (pc' := 76) (ls' := [.ref 74, .int 2, .int 16, .int (nI k3), am_du]) (st' := [.ref 74]) rfl ?_
              refine wp_getr 79 rfl rfl rfl ?_
              refine wp_run 2 (pc' := 81) (ls' := [.ref 74, .int 2, .int 16, .int (nI k3), am_du]) (st' := [.int 16, .int 2, .ref 79]) rfl ?_
              refine wp_if_t rfl (show ¬ (16 : Int32) = 0 from by decide) ?_
              refine wp_run 1 (pc' := 89) (ls' := [.ref 74, .int 2, .int 16, .int (nI k3), am_du]) (st' := [.int (nI k3), .int 2, .ref 79]) rfl ?_
              refine wp_ast rfl rfl rfl (by decide) rfl ?_
              refine wp_run 2 (pc' := 93) (ls' := [.ref 74, .int 2, .int 16, .int (nI k3), .int 0]) (st' := []) rfl ?_
              have hp := lp_sheet (L := L) (xs := xs) (d := d) (ms := ms2) (b := b) (h := (am_u (am_u (am_ur (am_u (am_u h 69 1 16) 69 2 (nI k3)) 70 (sh_zf ((am_u (am_u h 69 1 16) 69 2 (nI k3)) 70) 24)) 78 2 16) 79 2 (nI k3))) (s := 2) (b2 := 16) (b3 := (nI k3)) (Q := Q2) (by omega) ?_ 24 0 (by omega)
              · rw [sh_zc_0] at hp; exact hp
              · exact kk2 _ _ ⟨⟨n, c, t, tp, wt, s0, s1, p0, p1, H⟩, re_im_s hI, hE, (re_sh_l hS0 (s2 := 2) (by omega) 16 (nI k3)), (re_sh_l hS1 (s2 := 2) (by omega) 16 (nI k3)), (re_sh_n (l := k3) (v := 16) (by omega) (Or.inr (Or.inr (Or.inl rfl)))), (re_sh_l hS3 (s2 := 2) (by omega) 16 (nI k3)), hT⟩
            · skip
              refine wp_run 2 (pc' := 82) (ls' := [.ref 0, .int 2, .int 16, .int x3, .int 1]) (st' := [.int 1, .ref 0]) rfl ?_
              refine wp_callV (o := 0) (as := [.int 1]) (rest := []) (els := [.ref 0, .int 1]) rfl rfl rfl rfl rfl rfl rfl rfl (by omega) ?_
              refine sp_refuse1 (by omega) ?_
              show am_wp L xs _ _ _ _ 85 [.ref 0, .int 2, .int 16, .int x3, .int 1] [.int (-1000000001)] (am_S b) (am_u h 73 1 (h 73 1 + 1)) _
              refine wp_ret rfl ?_
              refine kk _ _ _ (fun ms2 Q2 kk2 => ?_)
              refine wp_run 1 (pc' := 1) (ls' := [.ref 74, .int 2, .int 16, .int x3, am_du]) (st' := [.int 2]) rfl ?_
              refine wp_callS (as := [.int 2]) (rest := []) (els := [.int 2]) rfl rfl rfl rfl rfl rfl rfl rfl (by omega) ?_
              refine sp_m_isSheet (by omega) (fun _ _ _ => ?_) (fun q => absurd rfl (q 2 (by omega)))
              show am_wp L xs _ _ _ _ 4 [.ref 74, .int 2, .int 16, .int x3, am_du] [.int 1] (am_S b) (am_u h 73 1 (h 73 1 + 1)) _
              refine wp_if_f rfl (show ¬ ((1 : Int32) = 0) from by decide) ?_
              refine wp_run 1 (pc' := 8) (ls' := [.ref 74, .int 2, .int 16, .int x3, am_du]) (st' := [.int 16]) rfl ?_
              refine wp_if_f rfl (show ¬ ((16 : Int32) = 0) from by decide) ?_
              refine wp_run 2 (pc' := 14) (ls' := [.ref 74, .int 2, .int 16, .int x3, am_du]) (st' := [.int 8, .int 16]) rfl ?_
              refine wp_icmp_f rfl (show ¬ ((16 : Int32) = 8) from by decide) ?_
              refine wp_run 2 (pc' := 20) (ls' := [.ref 74, .int 2, .int 16, .int x3, am_du]) (st' := [.int 16, .int 16]) rfl ?_
              refine wp_icmp_t rfl (show (16 : Int32) = 16 from by decide) ?_
              refine wp_run 1 (pc' := 37) (ls' := [.ref 74, .int 2, .int 16, .int x3, am_du]) (st' := [.int 16]) rfl ?_
              refine wp_if_f rfl (show ¬ ((16 : Int32) ≤ 0) from by decide) ?_
              refine wp_run 1 (pc' := 41) (ls' := [.ref 74, .int 2, .int 16, .int x3, am_du]) (st' := [.int x3]) rfl ?_
              refine wp_if_t rfl (show 0 ≤ x3 from cq65) ?_
              refine wp_run 1 (pc' := 52) (ls' := [.ref 74, .int 2, .int 16, .int x3, am_du]) (st' := [.int 16]) rfl ?_
              refine wp_if_f rfl (show ¬ ((16 : Int32) ≤ 0) from by decide) ?_
              refine wp_run 2 (pc' := 58) (ls' := [.ref 74, .int 2, .int 16, .int x3, am_du]) (st' := [.int 24, .int x3]) rfl ?_
              refine wp_icmp_f rfl (show ¬ (x3 ≤ 24) from cq77) ?_
              refine wp_run 2 (pc' := 64) (ls' := [.ref 74, .int 2, .int 16, .int x3, am_du]) (st' := [.int (-1000000001), .ref 74]) rfl ?_
              refine wp_callV (o := 74) (as := [.int (-1000000001)]) (rest := []) (els := [.ref 74, .int (-1000000001)]) rfl rfl rfl rfl rfl rfl rfl rfl (by omega) ?_
              refine sp_error1 ?_
              show am_wp L xs _ _ _ _ 67 [.ref 74, .int 2, .int 16, .int x3, am_du] [.int (-1000000001)] (am_S b) (am_u (am_u h 73 1 (h 73 1 + 1)) 77 1 ((am_u h 73 1 (h 73 1 + 1)) 77 1 + 1)) _
              refine wp_ret rfl ?_
              exact kk2 _ _ (re_err1 hR)
          · skip
            refine wp_run 2 (pc' := 70) (ls' := [.ref 0, .int 2, .int 16, .int x3, .int 1]) (st' := [.int 3, .ref 0]) rfl ?_
            refine wp_callV (o := 0) (as := [.int 3]) (rest := []) (els := [.ref 0, .int 3]) rfl rfl rfl rfl rfl rfl rfl rfl (by omega) ?_
            refine sp_refuse3 (by omega) ?_
            show am_wp L xs _ _ _ _ 73 [.ref 0, .int 2, .int 16, .int x3, .int 1] [.int (-1000000003)] (am_S b) (am_u h 73 3 (h 73 3 + 1)) _
            refine wp_ret rfl ?_
            refine kk _ _ _ (fun ms2 Q2 kk2 => ?_)
            refine wp_run 1 (pc' := 1) (ls' := [.ref 74, .int 2, .int 16, .int x3, am_du]) (st' := [.int 2]) rfl ?_
            refine wp_callS (as := [.int 2]) (rest := []) (els := [.int 2]) rfl rfl rfl rfl rfl rfl rfl rfl (by omega) ?_
            refine sp_m_isSheet (by omega) (fun _ _ _ => ?_) (fun q => absurd rfl (q 2 (by omega)))
            show am_wp L xs _ _ _ _ 4 [.ref 74, .int 2, .int 16, .int x3, am_du] [.int 1] (am_S b) (am_u h 73 3 (h 73 3 + 1)) _
            refine wp_if_f rfl (show ¬ ((1 : Int32) = 0) from by decide) ?_
            refine wp_run 1 (pc' := 8) (ls' := [.ref 74, .int 2, .int 16, .int x3, am_du]) (st' := [.int 16]) rfl ?_
            refine wp_if_f rfl (show ¬ ((16 : Int32) = 0) from by decide) ?_
            refine wp_run 2 (pc' := 14) (ls' := [.ref 74, .int 2, .int 16, .int x3, am_du]) (st' := [.int 8, .int 16]) rfl ?_
            refine wp_icmp_f rfl (show ¬ ((16 : Int32) = 8) from by decide) ?_
            refine wp_run 2 (pc' := 20) (ls' := [.ref 74, .int 2, .int 16, .int x3, am_du]) (st' := [.int 16, .int 16]) rfl ?_
            refine wp_icmp_t rfl (show (16 : Int32) = 16 from by decide) ?_
            refine wp_run 1 (pc' := 37) (ls' := [.ref 74, .int 2, .int 16, .int x3, am_du]) (st' := [.int 16]) rfl ?_
            refine wp_if_f rfl (show ¬ ((16 : Int32) ≤ 0) from by decide) ?_
            refine wp_run 1 (pc' := 41) (ls' := [.ref 74, .int 2, .int 16, .int x3, am_du]) (st' := [.int x3]) rfl ?_
            refine wp_if_f rfl (show ¬ (0 ≤ x3) from cq65) ?_
            refine wp_run 2 (pc' := 47) (ls' := [.ref 74, .int 2, .int 16, .int x3, am_du]) (st' := [.int (-1000000003), .ref 74]) rfl ?_
            refine wp_callV (o := 74) (as := [.int (-1000000003)]) (rest := []) (els := [.ref 74, .int (-1000000003)]) rfl rfl rfl rfl rfl rfl rfl rfl (by omega) ?_
            refine sp_error3 ?_
            show am_wp L xs _ _ _ _ 50 [.ref 74, .int 2, .int 16, .int x3, am_du] [.int (-1000000003)] (am_S b) (am_u (am_u h 73 3 (h 73 3 + 1)) 77 3 ((am_u h 73 3 (h 73 3 + 1)) 77 3 + 1)) _
            refine wp_ret rfl ?_
            exact kk2 _ _ (re_err3 hR)
        · skip
          intro ex1
          subst ex1
          show am_wp L xs _ _ _ _ 33 [.ref 0, .int 3, .int 16, .int x3, .int 1] [.int 1] (am_S b) h _
          refine wp_if_f rfl (show ¬ ((1 : Int32) = 0) from by decide) ?_
          refine wp_run 1 (pc' := 38) (ls' := [.ref 0, .int 3, .int 16, .int x3, .int 1]) (st' := [.int 1]) rfl ?_
          refine wp_if_t rfl (show ¬ (1 : Int32) = 0 from by decide) ?_
          refine wp_run 1 (pc' := 48) (ls' := [.ref 0, .int 3, .int 16, .int x3, .int 1]) (st' := [.int 16]) rfl ?_
          refine wp_if_t rfl (show ¬ (16 : Int32) = 0 from by decide) ?_
          refine wp_run 1 (pc' := 65) (ls' := [.ref 0, .int 3, .int 16, .int x3, .int 1]) (st' := [.int x3]) rfl ?_
          refine wp_if rfl (fun (cq65 : 0 ≤ x3) => ?_) (fun (cq65 : ¬ (0 ≤ x3)) => ?_)
          · skip
            refine wp_run 2 (pc' := 77) (ls' := [.ref 0, .int 3, .int 16, .int x3, .int 1]) (st' := [.int 24, .int x3]) rfl ?_
            refine wp_icmp rfl (fun (cq77 : x3 ≤ 24) => ?_) (fun (cq77 : ¬ (x3 ≤ 24)) => ?_)
            · skip
              obtain ⟨k3, hk3, ek3⟩ := pu_of (m := 24) (by omega) cq65 cq77
              subst ek3
              refine wp_run 1 (pc' := 87) (ls' := [.ref 0, .int 3, .int 16, .int (nI k3), .int 1]) (st' := [.ref 0]) rfl ?_
              refine wp_getr 64 rfl rfl rfl ?_
              refine wp_run 1 (pc' := 91) (ls' := [.ref 0, .int 3, .int 16, .int (nI k3), .int 1]) (st' := [.int 3, .ref 64]) rfl ?_
              refine wp_aald (r := 71) rfl rfl (Or.inr rfl) rfl (by decide) rfl rfl ?_
              refine wp_run 2 (pc' := 94) (ls' := [.ref 0, .int 3, .int 16, .int (nI k3), .int 1]) (st' := [.int (nI k3), .int 16, .ref 71]) rfl ?_
              refine wp_callV (o := 71) (as := [.int 16, .int (nI k3)]) (rest := []) (els := [.ref 71, .int 16, .int (nI k3), am_du]) rfl rfl rfl rfl rfl rfl rfl rfl (by omega) ?_
              refine sp_lay (o := 71) rfl rfl rfl ?_
              show am_wp L xs _ _ _ _ 97 [.ref 0, .int 3, .int 16, .int (nI k3), .int 1] [] (am_S b) (am_ur (am_u (am_u h 71 1 16) 71 2 (nI k3)) 72 (sh_zf ((am_u (am_u h 71 1 16) 71 2 (nI k3)) 72) 24)) _
              refine wp_run 1 (pc' := 98) (ls' := [.ref 0, .int 3, .int 16, .int (nI k3), .int 1]) (st' := [.int 1]) rfl ?_
              refine wp_ret rfl ?_
              refine kk _ _ _ (fun ms2 Q2 kk2 => ?_)
              refine wp_run 1 (pc' := 1) (ls' := [.ref 74, .int 3, .int 16, .int (nI k3), am_du]) (st' := [.int 3]) rfl ?_
              refine wp_callS (as := [.int 3]) (rest := []) (els := [.int 3]) rfl rfl rfl rfl rfl rfl rfl rfl (by omega) ?_
              refine sp_m_isSheet (by omega) (fun _ _ _ => ?_) (fun q => absurd rfl (q 3 (by omega)))
              show am_wp L xs _ _ _ _ 4 [.ref 74, .int 3, .int 16, .int (nI k3), am_du] [.int 1] (am_S b) (am_ur (am_u (am_u h 71 1 16) 71 2 (nI k3)) 72 (sh_zf ((am_u (am_u h 71 1 16) 71 2 (nI k3)) 72) 24)) _
              refine wp_if_f rfl (show ¬ ((1 : Int32) = 0) from by decide) ?_
              refine wp_run 1 (pc' := 8) (ls' := [.ref 74, .int 3, .int 16, .int (nI k3), am_du]) (st' := [.int 16]) rfl ?_
              refine wp_if_f rfl (show ¬ ((16 : Int32) = 0) from by decide) ?_
              refine wp_run 2 (pc' := 14) (ls' := [.ref 74, .int 3, .int 16, .int (nI k3), am_du]) (st' := [.int 8, .int 16]) rfl ?_
              refine wp_icmp_f rfl (show ¬ ((16 : Int32) = 8) from by decide) ?_
              refine wp_run 2 (pc' := 20) (ls' := [.ref 74, .int 3, .int 16, .int (nI k3), am_du]) (st' := [.int 16, .int 16]) rfl ?_
              refine wp_icmp_t rfl (show (16 : Int32) = 16 from by decide) ?_
              refine wp_run 1 (pc' := 37) (ls' := [.ref 74, .int 3, .int 16, .int (nI k3), am_du]) (st' := [.int 16]) rfl ?_
              refine wp_if_f rfl (show ¬ ((16 : Int32) ≤ 0) from by decide) ?_
              refine wp_run 1 (pc' := 41) (ls' := [.ref 74, .int 3, .int 16, .int (nI k3), am_du]) (st' := [.int (nI k3)]) rfl ?_
              refine wp_if_t rfl (show 0 ≤ (nI k3) from (nI_leI (a := 0) (b := k3) (by omega) (by omega)).mpr (by omega)) ?_
              refine wp_run 1 (pc' := 52) (ls' := [.ref 74, .int 3, .int 16, .int (nI k3), am_du]) (st' := [.int 16]) rfl ?_
              refine wp_if_f rfl (show ¬ ((16 : Int32) ≤ 0) from by decide) ?_
              refine wp_run 2 (pc' := 58) (ls' := [.ref 74, .int 3, .int 16, .int (nI k3), am_du]) (st' := [.int 24, .int (nI k3)]) rfl ?_
              refine wp_icmp_t rfl (show (nI k3) ≤ 24 from (nI_leI (a := k3) (b := 24) (by omega) (by omega)).mpr (by omega)) ?_
              refine wp_run 1 (pc' := 69) (ls' := [.ref 74, .int 3, .int 16, .int (nI k3), am_du]) (st' := [.ref 74]) rfl ?_
              refine wp_getr 78 rfl rfl rfl ?_
              refine wp_run 2 (pc' := 74) (ls' := [.ref 74, .int 3, .int 16, .int (nI k3), am_du]) (st' := [.int 16, .int 3, .ref 78]) rfl ?_
              refine wp_ast rfl rfl rfl (by decide) rfl ?_
              refine wp_run 1 (pc' := 76) (ls' := [.ref 74, .int 3, .int 16, .int (nI k3), am_du]) (st' := [.ref 74]) rfl ?_
              refine wp_getr 79 rfl rfl rfl ?_
              refine wp_run 2 (pc' := 81) (ls' := [.ref 74, .int 3, .int 16, .int (nI k3), am_du]) (st' := [.int 16, .int 3, .ref 79]) rfl ?_
              refine wp_if_t rfl (show ¬ (16 : Int32) = 0 from by decide) ?_
              refine wp_run 1 (pc' := 89) (ls' := [.ref 74, .int 3, .int 16, .int (nI k3), am_du]) (st' := [.int (nI k3), .int 3, .ref 79]) rfl ?_
              refine wp_ast rfl rfl rfl (by decide) rfl ?_
              refine wp_run 2 (pc' := 93) (ls' := [.ref 74, .int 3, .int 16, .int (nI k3), .int 0]) (st' := []) rfl ?_
              have hp := lp_sheet (L := L) (xs := xs) (d := d) (ms := ms2) (b := b) (h := (am_u (am_u (am_ur (am_u (am_u h 71 1 16) 71 2 (nI k3)) 72 (sh_zf ((am_u (am_u h 71 1 16) 71 2 (nI k3)) 72) 24)) 78 3 16) 79 3 (nI k3))) (s := 3) (b2 := 16) (b3 := (nI k3)) (Q := Q2) (by omega) ?_ 24 0 (by omega)
              · rw [sh_zc_0] at hp; exact hp
              · exact kk2 _ _ ⟨⟨n, c, t, tp, wt, s0, s1, p0, p1, H⟩, re_im_s hI, hE, (re_sh_l hS0 (s2 := 3) (by omega) 16 (nI k3)), (re_sh_l hS1 (s2 := 3) (by omega) 16 (nI k3)), (re_sh_l hS2 (s2 := 3) (by omega) 16 (nI k3)), (re_sh_n (l := k3) (v := 16) (by omega) (Or.inr (Or.inr (Or.inl rfl)))), hT⟩
            · skip
              refine wp_run 2 (pc' := 82) (ls' := [.ref 0, .int 3, .int 16, .int x3, .int 1]) (st' := [.int 1, .ref 0]) rfl ?_
              refine wp_callV (o := 0) (as := [.int 1]) (rest := []) (els := [.ref 0, .int 1]) rfl rfl rfl rfl rfl rfl rfl rfl (by omega) ?_
              refine sp_refuse1 (by omega) ?_
              show am_wp L xs _ _ _ _ 85 [.ref 0, .int 3, .int 16, .int x3, .int 1] [.int (-1000000001)] (am_S b) (am_u h 73 1 (h 73 1 + 1)) _
              refine wp_ret rfl ?_
              refine kk _ _ _ (fun ms2 Q2 kk2 => ?_)
              refine wp_run 1 (pc' := 1) (ls' := [.ref 74, .int 3, .int 16, .int x3, am_du]) (st' := [.int 3]) rfl ?_
              refine wp_callS (as := [.int 3]) (rest := []) (els := [.int 3]) rfl rfl rfl rfl rfl rfl rfl rfl (by omega) ?_
              refine sp_m_isSheet (by omega) (fun _ _ _ => ?_) (fun q => absurd rfl (q 3 (by omega)))
              show am_wp L xs _ _ _ _ 4 [.ref 74, .int 3, .int 16, .int x3, am_du] [.int 1] (am_S b) (am_u h 73 1 (h 73 1 + 1)) _
              refine wp_if_f rfl (show ¬ ((1 : Int32) = 0) from by decide) ?_
              refine wp_run 1 (pc' := 8) (ls' := [.ref 74, .int 3, .int 16, .int x3, am_du]) (st' := [.int 16]) rfl ?_
              refine wp_if_f rfl (show ¬ ((16 : Int32) = 0) from by decide) ?_
              refine wp_run 2 (pc' := 14) (ls' := [.ref 74, .int 3, .int 16, .int x3, am_du]) (st' := [.int 8, .int 16]) rfl ?_
              refine wp_icmp_f rfl (show ¬ ((16 : Int32) = 8) from by decide) ?_
              refine wp_run 2 (pc' := 20) (ls' := [.ref 74, .int 3, .int 16, .int x3, am_du]) (st' := [.int 16, .int 16]) rfl ?_
              refine wp_icmp_t rfl (show (16 : Int32) = 16 from by decide) ?_
              refine wp_run 1 (pc' := 37) (ls' := [.ref 74, .int 3, .int 16, .int x3, am_du]) (st' := [.int 16]) rfl ?_
              refine wp_if_f rfl (show ¬ ((16 : Int32) ≤ 0) from by decide) ?_
              refine wp_run 1 (pc' := 41) (ls' := [.ref 74, .int 3, .int 16, .int x3, am_du]) (st' := [.int x3]) rfl ?_
              refine wp_if_t rfl (show 0 ≤ x3 from cq65) ?_
              refine wp_run 1 (pc' := 52) (ls' := [.ref 74, .int 3, .int 16, .int x3, am_du]) (st' := [.int 16]) rfl ?_
              refine wp_if_f rfl (show ¬ ((16 : Int32) ≤ 0) from by decide) ?_
              refine wp_run 2 (pc' := 58) (ls' := [.ref 74, .int 3, .int 16, .int x3, am_du]) (st' := [.int 24, .int x3]) rfl ?_
              refine wp_icmp_f rfl (show ¬ (x3 ≤ 24) from cq77) ?_
              refine wp_run 2 (pc' := 64) (ls' := [.ref 74, .int 3, .int 16, .int x3, am_du]) (st' := [.int (-1000000001), .ref 74]) rfl ?_
              refine wp_callV (o := 74) (as := [.int (-1000000001)]) (rest := []) (els := [.ref 74, .int (-1000000001)]) rfl rfl rfl rfl rfl rfl rfl rfl (by omega) ?_
              refine sp_error1 ?_
              show am_wp L xs _ _ _ _ 67 [.ref 74, .int 3, .int 16, .int x3, am_du] [.int (-1000000001)] (am_S b) (am_u (am_u h 73 1 (h 73 1 + 1)) 77 1 ((am_u h 73 1 (h 73 1 + 1)) 77 1 + 1)) _
              refine wp_ret rfl ?_
              exact kk2 _ _ (re_err1 hR)
          · skip
            refine wp_run 2 (pc' := 70) (ls' := [.ref 0, .int 3, .int 16, .int x3, .int 1]) (st' := [.int 3, .ref 0]) rfl ?_
            refine wp_callV (o := 0) (as := [.int 3]) (rest := []) (els := [.ref 0, .int 3]) rfl rfl rfl rfl rfl rfl rfl rfl (by omega) ?_
            refine sp_refuse3 (by omega) ?_
            show am_wp L xs _ _ _ _ 73 [.ref 0, .int 3, .int 16, .int x3, .int 1] [.int (-1000000003)] (am_S b) (am_u h 73 3 (h 73 3 + 1)) _
            refine wp_ret rfl ?_
            refine kk _ _ _ (fun ms2 Q2 kk2 => ?_)
            refine wp_run 1 (pc' := 1) (ls' := [.ref 74, .int 3, .int 16, .int x3, am_du]) (st' := [.int 3]) rfl ?_
            refine wp_callS (as := [.int 3]) (rest := []) (els := [.int 3]) rfl rfl rfl rfl rfl rfl rfl rfl (by omega) ?_
            refine sp_m_isSheet (by omega) (fun _ _ _ => ?_) (fun q => absurd rfl (q 3 (by omega)))
            show am_wp L xs _ _ _ _ 4 [.ref 74, .int 3, .int 16, .int x3, am_du] [.int 1] (am_S b) (am_u h 73 3 (h 73 3 + 1)) _
            refine wp_if_f rfl (show ¬ ((1 : Int32) = 0) from by decide) ?_
            refine wp_run 1 (pc' := 8) (ls' := [.ref 74, .int 3, .int 16, .int x3, am_du]) (st' := [.int 16]) rfl ?_
            refine wp_if_f rfl (show ¬ ((16 : Int32) = 0) from by decide) ?_
            refine wp_run 2 (pc' := 14) (ls' := [.ref 74, .int 3, .int 16, .int x3, am_du]) (st' := [.int 8, .int 16]) rfl ?_
            refine wp_icmp_f rfl (show ¬ ((16 : Int32) = 8) from by decide) ?_
            refine wp_run 2 (pc' := 20) (ls' := [.ref 74, .int 3, .int 16, .int x3, am_du]) (st' := [.int 16, .int 16]) rfl ?_
            refine wp_icmp_t rfl (show (16 : Int32) = 16 from by decide) ?_
            refine wp_run 1 (pc' := 37) (ls' := [.ref 74, .int 3, .int 16, .int x3, am_du]) (st' := [.int 16]) rfl ?_
            refine wp_if_f rfl (show ¬ ((16 : Int32) ≤ 0) from by decide) ?_
            refine wp_run 1 (pc' := 41) (ls' := [.ref 74, .int 3, .int 16, .int x3, am_du]) (st' := [.int x3]) rfl ?_
            refine wp_if_f rfl (show ¬ (0 ≤ x3) from cq65) ?_
            refine wp_run 2 (pc' := 47) (ls' := [.ref 74, .int 3, .int 16, .int x3, am_du]) (st' := [.int (-1000000003), .ref 74]) rfl ?_
            refine wp_callV (o := 74) (as := [.int (-1000000003)]) (rest := []) (els := [.ref 74, .int (-1000000003)]) rfl rfl rfl rfl rfl rfl rfl rfl (by omega) ?_
            refine sp_error3 ?_
            show am_wp L xs _ _ _ _ 50 [.ref 74, .int 3, .int 16, .int x3, am_du] [.int (-1000000003)] (am_S b) (am_u (am_u h 73 3 (h 73 3 + 1)) 77 3 ((am_u h 73 3 (h 73 3 + 1)) 77 3 + 1)) _
            refine wp_ret rfl ?_
            exact kk2 _ _ (re_err3 hR)
        · skip
          intro hnx1
          show am_wp L xs _ _ _ _ 33 [.ref 0, .int x1, .int 16, .int x3, .int 1] [.int 0] (am_S b) h _
          refine wp_if_t rfl (show (0 : Int32) = 0 from by decide) ?_
          refine wp_run 2 (pc' := 43) (ls' := [.ref 0, .int x1, .int 16, .int x3, .int 1]) (st' := [.int 1, .ref 0]) rfl ?_
          refine wp_callV (o := 0) (as := [.int 1]) (rest := []) (els := [.ref 0, .int 1]) rfl rfl rfl rfl rfl rfl rfl rfl (by omega) ?_
          refine sp_refuse1 (by omega) ?_
          show am_wp L xs _ _ _ _ 46 [.ref 0, .int x1, .int 16, .int x3, .int 1] [.int (-1000000001)] (am_S b) (am_u h 73 1 (h 73 1 + 1)) _
          refine wp_ret rfl ?_
          refine kk _ _ _ (fun ms2 Q2 kk2 => ?_)
          refine wp_run 1 (pc' := 1) (ls' := [.ref 74, .int x1, .int 16, .int x3, am_du]) (st' := [.int x1]) rfl ?_
          refine wp_callS (as := [.int x1]) (rest := []) (els := [.int x1]) rfl rfl rfl rfl rfl rfl rfl rfl (by omega) ?_
          refine sp_m_isSheet (by omega) (fun k hk e => absurd e (hnx1 k hk)) (fun _ => ?_)
          show am_wp L xs _ _ _ _ 4 [.ref 74, .int x1, .int 16, .int x3, am_du] [.int 0] (am_S b) (am_u h 73 1 (h 73 1 + 1)) _
          refine wp_if_t rfl (show (0 : Int32) = 0 from by decide) ?_
          refine wp_run 2 (pc' := 32) (ls' := [.ref 74, .int x1, .int 16, .int x3, am_du]) (st' := [.int (-1000000001), .ref 74]) rfl ?_
          refine wp_callV (o := 74) (as := [.int (-1000000001)]) (rest := []) (els := [.ref 74, .int (-1000000001)]) rfl rfl rfl rfl rfl rfl rfl rfl (by omega) ?_
          refine sp_error1 ?_
          show am_wp L xs _ _ _ _ 35 [.ref 74, .int x1, .int 16, .int x3, am_du] [.int (-1000000001)] (am_S b) (am_u (am_u h 73 1 (h 73 1 + 1)) 77 1 ((am_u h 73 1 (h 73 1 + 1)) 77 1 + 1)) _
          refine wp_ret rfl ?_
          exact kk2 _ _ (re_err1 hR)
      · skip
        refine wp_run 2 (pc' := 19) (ls' := [.ref 0, .int x1, .int x2, .int x3, am_du]) (st' := [.int 32, .int x2]) rfl ?_
        refine wp_icmp rfl (fun (cq19 : ¬ x2 = 32) => ?_) (fun (cq19 : ¬ (¬ x2 = 32)) => ?_)
        · skip
          refine wp_run 3 (pc' := 30) (ls' := [.ref 0, .int x1, .int x2, .int x3, .int 0]) (st' := [.int x1]) rfl ?_
          refine wp_callS (as := [.int x1]) (rest := []) (els := [.int x1]) rfl rfl rfl rfl rfl rfl rfl rfl (by omega) ?_
          refine sp_x_isSheet (by omega) (pu_four ?_ ?_ ?_ ?_) ?_
          · skip
            intro ex1
            subst ex1
            show am_wp L xs _ _ _ _ 33 [.ref 0, .int 0, .int x2, .int x3, .int 0] [.int 1] (am_S b) h _
            refine wp_if_f rfl (show ¬ ((1 : Int32) = 0) from by decide) ?_
            refine wp_run 1 (pc' := 38) (ls' := [.ref 0, .int 0, .int x2, .int x3, .int 0]) (st' := [.int 0]) rfl ?_
            refine wp_if_f rfl (show ¬ (¬ (0 : Int32) = 0) from by decide) ?_
            refine wp_run 2 (pc' := 43) (ls' := [.ref 0, .int 0, .int x2, .int x3, .int 0]) (st' := [.int 1, .ref 0]) rfl ?_
            refine wp_callV (o := 0) (as := [.int 1]) (rest := []) (els := [.ref 0, .int 1]) rfl rfl rfl rfl rfl rfl rfl rfl (by omega) ?_
            refine sp_refuse1 (by omega) ?_
            show am_wp L xs _ _ _ _ 46 [.ref 0, .int 0, .int x2, .int x3, .int 0] [.int (-1000000001)] (am_S b) (am_u h 73 1 (h 73 1 + 1)) _
            refine wp_ret rfl ?_
            refine kk _ _ _ (fun ms2 Q2 kk2 => ?_)
            refine wp_run 1 (pc' := 1) (ls' := [.ref 74, .int 0, .int x2, .int x3, am_du]) (st' := [.int 0]) rfl ?_
            refine wp_callS (as := [.int 0]) (rest := []) (els := [.int 0]) rfl rfl rfl rfl rfl rfl rfl rfl (by omega) ?_
            refine sp_m_isSheet (by omega) (fun _ _ _ => ?_) (fun q => absurd rfl (q 0 (by omega)))
            show am_wp L xs _ _ _ _ 4 [.ref 74, .int 0, .int x2, .int x3, am_du] [.int 1] (am_S b) (am_u h 73 1 (h 73 1 + 1)) _
            refine wp_if_f rfl (show ¬ ((1 : Int32) = 0) from by decide) ?_
            refine wp_run 1 (pc' := 8) (ls' := [.ref 74, .int 0, .int x2, .int x3, am_du]) (st' := [.int x2]) rfl ?_
            refine wp_if_f rfl (show ¬ (x2 = 0) from cq1) ?_
            refine wp_run 2 (pc' := 14) (ls' := [.ref 74, .int 0, .int x2, .int x3, am_du]) (st' := [.int 8, .int x2]) rfl ?_
            refine wp_icmp_f rfl (show ¬ (x2 = 8) from cq7) ?_
            refine wp_run 2 (pc' := 20) (ls' := [.ref 74, .int 0, .int x2, .int x3, am_du]) (st' := [.int 16, .int x2]) rfl ?_
            refine wp_icmp_f rfl (show ¬ (x2 = 16) from cq13) ?_
            refine wp_run 2 (pc' := 26) (ls' := [.ref 74, .int 0, .int x2, .int x3, am_du]) (st' := [.int 32, .int x2]) rfl ?_
            refine wp_icmp_f rfl (show ¬ (x2 = 32) from cq19) ?_
            refine wp_run 2 (pc' := 32) (ls' := [.ref 74, .int 0, .int x2, .int x3, am_du]) (st' := [.int (-1000000001), .ref 74]) rfl ?_
            refine wp_callV (o := 74) (as := [.int (-1000000001)]) (rest := []) (els := [.ref 74, .int (-1000000001)]) rfl rfl rfl rfl rfl rfl rfl rfl (by omega) ?_
            refine sp_error1 ?_
            show am_wp L xs _ _ _ _ 35 [.ref 74, .int 0, .int x2, .int x3, am_du] [.int (-1000000001)] (am_S b) (am_u (am_u h 73 1 (h 73 1 + 1)) 77 1 ((am_u h 73 1 (h 73 1 + 1)) 77 1 + 1)) _
            refine wp_ret rfl ?_
            exact kk2 _ _ (re_err1 hR)
          · skip
            intro ex1
            subst ex1
            show am_wp L xs _ _ _ _ 33 [.ref 0, .int 1, .int x2, .int x3, .int 0] [.int 1] (am_S b) h _
            refine wp_if_f rfl (show ¬ ((1 : Int32) = 0) from by decide) ?_
            refine wp_run 1 (pc' := 38) (ls' := [.ref 0, .int 1, .int x2, .int x3, .int 0]) (st' := [.int 0]) rfl ?_
            refine wp_if_f rfl (show ¬ (¬ (0 : Int32) = 0) from by decide) ?_
            refine wp_run 2 (pc' := 43) (ls' := [.ref 0, .int 1, .int x2, .int x3, .int 0]) (st' := [.int 1, .ref 0]) rfl ?_
            refine wp_callV (o := 0) (as := [.int 1]) (rest := []) (els := [.ref 0, .int 1]) rfl rfl rfl rfl rfl rfl rfl rfl (by omega) ?_
            refine sp_refuse1 (by omega) ?_
            show am_wp L xs _ _ _ _ 46 [.ref 0, .int 1, .int x2, .int x3, .int 0] [.int (-1000000001)] (am_S b) (am_u h 73 1 (h 73 1 + 1)) _
            refine wp_ret rfl ?_
            refine kk _ _ _ (fun ms2 Q2 kk2 => ?_)
            refine wp_run 1 (pc' := 1) (ls' := [.ref 74, .int 1, .int x2, .int x3, am_du]) (st' := [.int 1]) rfl ?_
            refine wp_callS (as := [.int 1]) (rest := []) (els := [.int 1]) rfl rfl rfl rfl rfl rfl rfl rfl (by omega) ?_
            refine sp_m_isSheet (by omega) (fun _ _ _ => ?_) (fun q => absurd rfl (q 1 (by omega)))
            show am_wp L xs _ _ _ _ 4 [.ref 74, .int 1, .int x2, .int x3, am_du] [.int 1] (am_S b) (am_u h 73 1 (h 73 1 + 1)) _
            refine wp_if_f rfl (show ¬ ((1 : Int32) = 0) from by decide) ?_
            refine wp_run 1 (pc' := 8) (ls' := [.ref 74, .int 1, .int x2, .int x3, am_du]) (st' := [.int x2]) rfl ?_
            refine wp_if_f rfl (show ¬ (x2 = 0) from cq1) ?_
            refine wp_run 2 (pc' := 14) (ls' := [.ref 74, .int 1, .int x2, .int x3, am_du]) (st' := [.int 8, .int x2]) rfl ?_
            refine wp_icmp_f rfl (show ¬ (x2 = 8) from cq7) ?_
            refine wp_run 2 (pc' := 20) (ls' := [.ref 74, .int 1, .int x2, .int x3, am_du]) (st' := [.int 16, .int x2]) rfl ?_
            refine wp_icmp_f rfl (show ¬ (x2 = 16) from cq13) ?_
            refine wp_run 2 (pc' := 26) (ls' := [.ref 74, .int 1, .int x2, .int x3, am_du]) (st' := [.int 32, .int x2]) rfl ?_
            refine wp_icmp_f rfl (show ¬ (x2 = 32) from cq19) ?_
            refine wp_run 2 (pc' := 32) (ls' := [.ref 74, .int 1, .int x2, .int x3, am_du]) (st' := [.int (-1000000001), .ref 74]) rfl ?_
            refine wp_callV (o := 74) (as := [.int (-1000000001)]) (rest := []) (els := [.ref 74, .int (-1000000001)]) rfl rfl rfl rfl rfl rfl rfl rfl (by omega) ?_
            refine sp_error1 ?_
            show am_wp L xs _ _ _ _ 35 [.ref 74, .int 1, .int x2, .int x3, am_du] [.int (-1000000001)] (am_S b) (am_u (am_u h 73 1 (h 73 1 + 1)) 77 1 ((am_u h 73 1 (h 73 1 + 1)) 77 1 + 1)) _
            refine wp_ret rfl ?_
            exact kk2 _ _ (re_err1 hR)
          · skip
            intro ex1
            subst ex1
            show am_wp L xs _ _ _ _ 33 [.ref 0, .int 2, .int x2, .int x3, .int 0] [.int 1] (am_S b) h _
            refine wp_if_f rfl (show ¬ ((1 : Int32) = 0) from by decide) ?_
            refine wp_run 1 (pc' := 38) (ls' := [.ref 0, .int 2, .int x2, .int x3, .int 0]) (st' := [.int 0]) rfl ?_
            refine wp_if_f rfl (show ¬ (¬ (0 : Int32) = 0) from by decide) ?_
            refine wp_run 2 (pc' := 43) (ls' := [.ref 0, .int 2, .int x2, .int x3, .int 0]) (st' := [.int 1, .ref 0]) rfl ?_
            refine wp_callV (o := 0) (as := [.int 1]) (rest := []) (els := [.ref 0, .int 1]) rfl rfl rfl rfl rfl rfl rfl rfl (by omega) ?_
            refine sp_refuse1 (by omega) ?_
            show am_wp L xs _ _ _ _ 46 [.ref 0, .int 2, .int x2, .int x3, .int 0] [.int (-1000000001)] (am_S b) (am_u h 73 1 (h 73 1 + 1)) _
            refine wp_ret rfl ?_
            refine kk _ _ _ (fun ms2 Q2 kk2 => ?_)
            refine wp_run 1 (pc' := 1) (ls' := [.ref 74, .int 2, .int x2, .int x3, am_du]) (st' := [.int 2]) rfl ?_
            refine wp_callS (as := [.int 2]) (rest := []) (els := [.int 2]) rfl rfl rfl rfl rfl rfl rfl rfl (by omega) ?_
            refine sp_m_isSheet (by omega) (fun _ _ _ => ?_) (fun q => absurd rfl (q 2 (by omega)))
            show am_wp L xs _ _ _ _ 4 [.ref 74, .int 2, .int x2, .int x3, am_du] [.int 1] (am_S b) (am_u h 73 1 (h 73 1 + 1)) _
            refine wp_if_f rfl (show ¬ ((1 : Int32) = 0) from by decide) ?_
            refine wp_run 1 (pc' := 8) (ls' := [.ref 74, .int 2, .int x2, .int x3, am_du]) (st' := [.int x2]) rfl ?_
            refine wp_if_f rfl (show ¬ (x2 = 0) from cq1) ?_
            refine wp_run 2 (pc' := 14) (ls' := [.ref 74, .int 2, .int x2, .int x3, am_du]) (st' := [.int 8, .int x2]) rfl ?_
            refine wp_icmp_f rfl (show ¬ (x2 = 8) from cq7) ?_
            refine wp_run 2 (pc' := 20) (ls' := [.ref 74, .int 2, .int x2, .int x3, am_du]) (st' := [.int 16, .int x2]) rfl ?_
            refine wp_icmp_f rfl (show ¬ (x2 = 16) from cq13) ?_
            refine wp_run 2 (pc' := 26) (ls' := [.ref 74, .int 2, .int x2, .int x3, am_du]) (st' := [.int 32, .int x2]) rfl ?_
            refine wp_icmp_f rfl (show ¬ (x2 = 32) from cq19) ?_
            refine wp_run 2 (pc' := 32) (ls' := [.ref 74, .int 2, .int x2, .int x3, am_du]) (st' := [.int (-1000000001), .ref 74]) rfl ?_
            refine wp_callV (o := 74) (as := [.int (-1000000001)]) (rest := []) (els := [.ref 74, .int (-1000000001)]) rfl rfl rfl rfl rfl rfl rfl rfl (by omega) ?_
            refine sp_error1 ?_
            show am_wp L xs _ _ _ _ 35 [.ref 74, .int 2, .int x2, .int x3, am_du] [.int (-1000000001)] (am_S b) (am_u (am_u h 73 1 (h 73 1 + 1)) 77 1 ((am_u h 73 1 (h 73 1 + 1)) 77 1 + 1)) _
            refine wp_ret rfl ?_
            exact kk2 _ _ (re_err1 hR)
          · skip
            intro ex1
            subst ex1
            show am_wp L xs _ _ _ _ 33 [.ref 0, .int 3, .int x2, .int x3, .int 0] [.int 1] (am_S b) h _
            refine wp_if_f rfl (show ¬ ((1 : Int32) = 0) from by decide) ?_
            refine wp_run 1 (pc' := 38) (ls' := [.ref 0, .int 3, .int x2, .int x3, .int 0]) (st' := [.int 0]) rfl ?_
            refine wp_if_f rfl (show ¬ (¬ (0 : Int32) = 0) from by decide) ?_
            refine wp_run 2 (pc' := 43) (ls' := [.ref 0, .int 3, .int x2, .int x3, .int 0]) (st' := [.int 1, .ref 0]) rfl ?_
            refine wp_callV (o := 0) (as := [.int 1]) (rest := []) (els := [.ref 0, .int 1]) rfl rfl rfl rfl rfl rfl rfl rfl (by omega) ?_
            refine sp_refuse1 (by omega) ?_
            show am_wp L xs _ _ _ _ 46 [.ref 0, .int 3, .int x2, .int x3, .int 0] [.int (-1000000001)] (am_S b) (am_u h 73 1 (h 73 1 + 1)) _
            refine wp_ret rfl ?_
            refine kk _ _ _ (fun ms2 Q2 kk2 => ?_)
            refine wp_run 1 (pc' := 1) (ls' := [.ref 74, .int 3, .int x2, .int x3, am_du]) (st' := [.int 3]) rfl ?_
            refine wp_callS (as := [.int 3]) (rest := []) (els := [.int 3]) rfl rfl rfl rfl rfl rfl rfl rfl (by omega) ?_
            refine sp_m_isSheet (by omega) (fun _ _ _ => ?_) (fun q => absurd rfl (q 3 (by omega)))
            show am_wp L xs _ _ _ _ 4 [.ref 74, .int 3, .int x2, .int x3, am_du] [.int 1] (am_S b) (am_u h 73 1 (h 73 1 + 1)) _
            refine wp_if_f rfl (show ¬ ((1 : Int32) = 0) from by decide) ?_
            refine wp_run 1 (pc' := 8) (ls' := [.ref 74, .int 3, .int x2, .int x3, am_du]) (st' := [.int x2]) rfl ?_
            refine wp_if_f rfl (show ¬ (x2 = 0) from cq1) ?_
            refine wp_run 2 (pc' := 14) (ls' := [.ref 74, .int 3, .int x2, .int x3, am_du]) (st' := [.int 8, .int x2]) rfl ?_
            refine wp_icmp_f rfl (show ¬ (x2 = 8) from cq7) ?_
            refine wp_run 2 (pc' := 20) (ls' := [.ref 74, .int 3, .int x2, .int x3, am_du]) (st' := [.int 16, .int x2]) rfl ?_
            refine wp_icmp_f rfl (show ¬ (x2 = 16) from cq13) ?_
            refine wp_run 2 (pc' := 26) (ls' := [.ref 74, .int 3, .int x2, .int x3, am_du]) (st' := [.int 32, .int x2]) rfl ?_
            refine wp_icmp_f rfl (show ¬ (x2 = 32) from cq19) ?_
            refine wp_run 2 (pc' := 32) (ls' := [.ref 74, .int 3, .int x2, .int x3, am_du]) (st' := [.int (-1000000001), .ref 74]) rfl ?_
            refine wp_callV (o := 74) (as := [.int (-1000000001)]) (rest := []) (els := [.ref 74, .int (-1000000001)]) rfl rfl rfl rfl rfl rfl rfl rfl (by omega) ?_
            refine sp_error1 ?_
            show am_wp L xs _ _ _ _ 35 [.ref 74, .int 3, .int x2, .int x3, am_du] [.int (-1000000001)] (am_S b) (am_u (am_u h 73 1 (h 73 1 + 1)) 77 1 ((am_u h 73 1 (h 73 1 + 1)) 77 1 + 1)) _
            refine wp_ret rfl ?_
            exact kk2 _ _ (re_err1 hR)
          · skip
            intro hnx1
            show am_wp L xs _ _ _ _ 33 [.ref 0, .int x1, .int x2, .int x3, .int 0] [.int 0] (am_S b) h _
            refine wp_if_t rfl (show (0 : Int32) = 0 from by decide) ?_
            refine wp_run 2 (pc' := 43) (ls' := [.ref 0, .int x1, .int x2, .int x3, .int 0]) (st' := [.int 1, .ref 0]) rfl ?_
            refine wp_callV (o := 0) (as := [.int 1]) (rest := []) (els := [.ref 0, .int 1]) rfl rfl rfl rfl rfl rfl rfl rfl (by omega) ?_
            refine sp_refuse1 (by omega) ?_
            show am_wp L xs _ _ _ _ 46 [.ref 0, .int x1, .int x2, .int x3, .int 0] [.int (-1000000001)] (am_S b) (am_u h 73 1 (h 73 1 + 1)) _
            refine wp_ret rfl ?_
            refine kk _ _ _ (fun ms2 Q2 kk2 => ?_)
            refine wp_run 1 (pc' := 1) (ls' := [.ref 74, .int x1, .int x2, .int x3, am_du]) (st' := [.int x1]) rfl ?_
            refine wp_callS (as := [.int x1]) (rest := []) (els := [.int x1]) rfl rfl rfl rfl rfl rfl rfl rfl (by omega) ?_
            refine sp_m_isSheet (by omega) (fun k hk e => absurd e (hnx1 k hk)) (fun _ => ?_)
            show am_wp L xs _ _ _ _ 4 [.ref 74, .int x1, .int x2, .int x3, am_du] [.int 0] (am_S b) (am_u h 73 1 (h 73 1 + 1)) _
            refine wp_if_t rfl (show (0 : Int32) = 0 from by decide) ?_
            refine wp_run 2 (pc' := 32) (ls' := [.ref 74, .int x1, .int x2, .int x3, am_du]) (st' := [.int (-1000000001), .ref 74]) rfl ?_
            refine wp_callV (o := 74) (as := [.int (-1000000001)]) (rest := []) (els := [.ref 74, .int (-1000000001)]) rfl rfl rfl rfl rfl rfl rfl rfl (by omega) ?_
            refine sp_error1 ?_
            show am_wp L xs _ _ _ _ 35 [.ref 74, .int x1, .int x2, .int x3, am_du] [.int (-1000000001)] (am_S b) (am_u (am_u h 73 1 (h 73 1 + 1)) 77 1 ((am_u h 73 1 (h 73 1 + 1)) 77 1 + 1)) _
            refine wp_ret rfl ?_
            exact kk2 _ _ (re_err1 hR)
        · skip
          replace cq19 := Decidable.not_not.mp cq19
          subst cq19
          refine wp_run 4 (pc' := 30) (ls' := [.ref 0, .int x1, .int 32, .int x3, .int 1]) (st' := [.int x1]) rfl ?_
          refine wp_callS (as := [.int x1]) (rest := []) (els := [.int x1]) rfl rfl rfl rfl rfl rfl rfl rfl (by omega) ?_
          refine sp_x_isSheet (by omega) (pu_four ?_ ?_ ?_ ?_) ?_
          · skip
            intro ex1
            subst ex1
            show am_wp L xs _ _ _ _ 33 [.ref 0, .int 0, .int 32, .int x3, .int 1] [.int 1] (am_S b) h _
            refine wp_if_f rfl (show ¬ ((1 : Int32) = 0) from by decide) ?_
            refine wp_run 1 (pc' := 38) (ls' := [.ref 0, .int 0, .int 32, .int x3, .int 1]) (st' := [.int 1]) rfl ?_
            refine wp_if_t rfl (show ¬ (1 : Int32) = 0 from by decide) ?_
            refine wp_run 1 (pc' := 48) (ls' := [.ref 0, .int 0, .int 32, .int x3, .int 1]) (st' := [.int 32]) rfl ?_
            refine wp_if_t rfl (show ¬ (32 : Int32) = 0 from by decide) ?_
            refine wp_run 1 (pc' := 65) (ls' := [.ref 0, .int 0, .int 32, .int x3, .int 1]) (st' := [.int x3]) rfl ?_
            refine wp_if rfl (fun (cq65 : 0 ≤ x3) => ?_) (fun (cq65 : ¬ (0 ≤ x3)) => ?_)
            · skip
              refine wp_run 2 (pc' := 77) (ls' := [.ref 0, .int 0, .int 32, .int x3, .int 1]) (st' := [.int 24, .int x3]) rfl ?_
              refine wp_icmp rfl (fun (cq77 : x3 ≤ 24) => ?_) (fun (cq77 : ¬ (x3 ≤ 24)) => ?_)
              · skip
                obtain ⟨k3, hk3, ek3⟩ := pu_of (m := 24) (by omega) cq65 cq77
                subst ek3
                refine wp_run 1 (pc' := 87) (ls' := [.ref 0, .int 0, .int 32, .int (nI k3), .int 1]) (st' := [.ref 0]) rfl ?_
                refine wp_getr 64 rfl rfl rfl ?_
                refine wp_run 1 (pc' := 91) (ls' := [.ref 0, .int 0, .int 32, .int (nI k3), .int 1]) (st' := [.int 0, .ref 64]) rfl ?_
                refine wp_aald (r := 65) rfl rfl (Or.inr rfl) rfl (by decide) rfl rfl ?_
                refine wp_run 2 (pc' := 94) (ls' := [.ref 0, .int 0, .int 32, .int (nI k3), .int 1]) (st' := [.int (nI k3), .int 32, .ref 65]) rfl ?_
                refine wp_callV (o := 65) (as := [.int 32, .int (nI k3)]) (rest := []) (els := [.ref 65, .int 32, .int (nI k3), am_du]) rfl rfl rfl rfl rfl rfl rfl rfl (by omega) ?_
                refine sp_lay (o := 65) rfl rfl rfl ?_
                show am_wp L xs _ _ _ _ 97 [.ref 0, .int 0, .int 32, .int (nI k3), .int 1] [] (am_S b) (am_ur (am_u (am_u h 65 1 32) 65 2 (nI k3)) 66 (sh_zf ((am_u (am_u h 65 1 32) 65 2 (nI k3)) 66) 24)) _
                refine wp_run 1 (pc' := 98) (ls' := [.ref 0, .int 0, .int 32, .int (nI k3), .int 1]) (st' := [.int 1]) rfl ?_
                refine wp_ret rfl ?_
                refine kk _ _ _ (fun ms2 Q2 kk2 => ?_)
                refine wp_run 1 (pc' := 1) (ls' := [.ref 74, .int 0, .int 32, .int (nI k3), am_du]) (st' := [.int 0]) rfl ?_
                refine wp_callS (as := [.int 0]) (rest := []) (els := [.int 0]) rfl rfl rfl rfl rfl rfl rfl rfl (by omega) ?_
                refine sp_m_isSheet (by omega) (fun _ _ _ => ?_) (fun q => absurd rfl (q 0 (by omega)))
                show am_wp L xs _ _ _ _ 4 [.ref 74, .int 0, .int 32, .int (nI k3), am_du] [.int 1] (am_S b) (am_ur (am_u (am_u h 65 1 32) 65 2 (nI k3)) 66 (sh_zf ((am_u (am_u h 65 1 32) 65 2 (nI k3)) 66) 24)) _
                refine wp_if_f rfl (show ¬ ((1 : Int32) = 0) from by decide) ?_
                refine wp_run 1 (pc' := 8) (ls' := [.ref 74, .int 0, .int 32, .int (nI k3), am_du]) (st' := [.int 32]) rfl ?_
                refine wp_if_f rfl (show ¬ ((32 : Int32) = 0) from by decide) ?_
                refine wp_run 2 (pc' := 14) (ls' := [.ref 74, .int 0, .int 32, .int (nI k3), am_du]) (st' := [.int 8, .int 32]) rfl ?_
                refine wp_icmp_f rfl (show ¬ ((32 : Int32) = 8) from by decide) ?_
                refine wp_run 2 (pc' := 20) (ls' := [.ref 74, .int 0, .int 32, .int (nI k3), am_du]) (st' := [.int 16, .int 32]) rfl ?_
                refine wp_icmp_f rfl (show ¬ ((32 : Int32) = 16) from by decide) ?_
                refine wp_run 2 (pc' := 26) (ls' := [.ref 74, .int 0, .int 32, .int (nI k3), am_du]) (st' := [.int 32, .int 32]) rfl ?_
                refine wp_icmp_t rfl (show (32 : Int32) = 32 from by decide) ?_
                refine wp_run 1 (pc' := 37) (ls' := [.ref 74, .int 0, .int 32, .int (nI k3), am_du]) (st' := [.int 32]) rfl ?_
                refine wp_if_f rfl (show ¬ ((32 : Int32) ≤ 0) from by decide) ?_
                refine wp_run 1 (pc' := 41) (ls' := [.ref 74, .int 0, .int 32, .int (nI k3), am_du]) (st' := [.int (nI k3)]) rfl ?_
                refine wp_if_t rfl (show 0 ≤ (nI k3) from (nI_leI (a := 0) (b := k3) (by omega) (by omega)).mpr (by omega)) ?_
                refine wp_run 1 (pc' := 52) (ls' := [.ref 74, .int 0, .int 32, .int (nI k3), am_du]) (st' := [.int 32]) rfl ?_
                refine wp_if_f rfl (show ¬ ((32 : Int32) ≤ 0) from by decide) ?_
                refine wp_run 2 (pc' := 58) (ls' := [.ref 74, .int 0, .int 32, .int (nI k3), am_du]) (st' := [.int 24, .int (nI k3)]) rfl ?_
                refine wp_icmp_t rfl (show (nI k3) ≤ 24 from (nI_leI (a := k3) (b := 24) (by omega) (by omega)).mpr (by omega)) ?_
                refine wp_run 1 (pc' := 69) (ls' := [.ref 74, .int 0, .int 32, .int (nI k3), am_du]) (st' := [.ref 74]) rfl ?_
                refine wp_getr 78 rfl rfl rfl ?_
                refine wp_run 2 (pc' := 74) (ls' := [.ref 74, .int 0, .int 32, .int (nI k3), am_du]) (st' := [.int 32, .int 0, .ref 78]) rfl ?_
                refine wp_ast rfl rfl rfl (by decide) rfl ?_
                refine wp_run 1 (pc' := 76) (ls' := [.ref 74, .int 0, .int 32, .int (nI k3), am_du]) (st' := [.ref 74]) rfl ?_
                refine wp_getr 79 rfl rfl rfl ?_
                refine wp_run 2 (pc' := 81) (ls' := [.ref 74, .int 0, .int 32, .int (nI k3), am_du]) (st' := [.int 32, .int 0, .ref 79]) rfl ?_
                refine wp_if_t rfl (show ¬ (32 : Int32) = 0 from by decide) ?_
                refine wp_run 1 (pc' := 89) (ls' := [.ref 74, .int 0, .int 32, .int (nI k3), am_du]) (st' := [.int (nI k3), .int 0, .ref 79]) rfl ?_
                refine wp_ast rfl rfl rfl (by decide) rfl ?_
                refine wp_run 2 (pc' := 93) (ls' := [.ref 74, .int 0, .int 32, .int (nI k3), .int 0]) (st' := []) rfl ?_
                have hp := lp_sheet (L := L) (xs := xs) (d := d) (ms := ms2) (b := b) (h := (am_u (am_u (am_ur (am_u (am_u h 65 1 32) 65 2 (nI k3)) 66 (sh_zf ((am_u (am_u h 65 1 32) 65 2 (nI k3)) 66) 24)) 78 0 32) 79 0 (nI k3))) (s := 0) (b2 := 32) (b3 := (nI k3)) (Q := Q2) (by omega) ?_ 24 0 (by omega)
                · rw [sh_zc_0] at hp; exact hp
                · exact kk2 _ _ ⟨⟨n, c, t, tp, wt, s0, s1, p0, p1, H⟩, re_im_s hI, hE, (re_sh_n (l := k3) (v := 32) (by omega) (Or.inr (Or.inr (Or.inr rfl)))), (re_sh_l hS1 (s2 := 0) (by omega) 32 (nI k3)), (re_sh_l hS2 (s2 := 0) (by omega) 32 (nI k3)), (re_sh_l hS3 (s2 := 0) (by omega) 32 (nI k3)), hT⟩
              · skip
                refine wp_run 2 (pc' := 82) (ls' := [.ref 0, .int 0, .int 32, .int x3, .int 1]) (st' := [.int 1, .ref 0]) rfl ?_
                refine wp_callV (o := 0) (as := [.int 1]) (rest := []) (els := [.ref 0, .int 1]) rfl rfl rfl rfl rfl rfl rfl rfl (by omega) ?_
                refine sp_refuse1 (by omega) ?_
                show am_wp L xs _ _ _ _ 85 [.ref 0, .int 0, .int 32, .int x3, .int 1] [.int (-1000000001)] (am_S b) (am_u h 73 1 (h 73 1 + 1)) _
                refine wp_ret rfl ?_
                refine kk _ _ _ (fun ms2 Q2 kk2 => ?_)
                refine wp_run 1 (pc' := 1) (ls' := [.ref 74, .int 0, .int 32, .int x3, am_du]) (st' := [.int 0]) rfl ?_
                refine wp_callS (as := [.int 0]) (rest := []) (els := [.int 0]) rfl rfl rfl rfl rfl rfl rfl rfl (by omega) ?_
                refine sp_m_isSheet (by omega) (fun _ _ _ => ?_) (fun q => absurd rfl (q 0 (by omega)))
                show am_wp L xs _ _ _ _ 4 [.ref 74, .int 0, .int 32, .int x3, am_du] [.int 1] (am_S b) (am_u h 73 1 (h 73 1 + 1)) _
                refine wp_if_f rfl (show ¬ ((1 : Int32) = 0) from by decide) ?_
                refine wp_run 1 (pc' := 8) (ls' := [.ref 74, .int 0, .int 32, .int x3, am_du]) (st' := [.int 32]) rfl ?_
                refine wp_if_f rfl (show ¬ ((32 : Int32) = 0) from by decide) ?_
                refine wp_run 2 (pc' := 14) (ls' := [.ref 74, .int 0, .int 32, .int x3, am_du]) (st' := [.int 8, .int 32]) rfl ?_
                refine wp_icmp_f rfl (show ¬ ((32 : Int32) = 8) from by decide) ?_
                refine wp_run 2 (pc' := 20) (ls' := [.ref 74, .int 0, .int 32, .int x3, am_du]) (st' := [.int 16, .int 32]) rfl ?_
                refine wp_icmp_f rfl (show ¬ ((32 : Int32) = 16) from by decide) ?_
                refine wp_run 2 (pc' := 26) (ls' := [.ref 74, .int 0, .int 32, .int x3, am_du]) (st' := [.int 32, .int 32]) rfl ?_
                refine wp_icmp_t rfl (show (32 : Int32) = 32 from by decide) ?_
                refine wp_run 1 (pc' := 37) (ls' := [.ref 74, .int 0, .int 32, .int x3, am_du]) (st' := [.int 32]) rfl ?_
                refine wp_if_f rfl (show ¬ ((32 : Int32) ≤ 0) from by decide) ?_
                refine wp_run 1 (pc' := 41) (ls' := [.ref 74, .int 0, .int 32, .int x3, am_du]) (st' := [.int x3]) rfl ?_
                refine wp_if_t rfl (show 0 ≤ x3 from cq65) ?_
                refine wp_run 1 (pc' := 52) (ls' := [.ref 74, .int 0, .int 32, .int x3, am_du]) (st' := [.int 32]) rfl ?_
                refine wp_if_f rfl (show ¬ ((32 : Int32) ≤ 0) from by decide) ?_
                refine wp_run 2 (pc' := 58) (ls' := [.ref 74, .int 0, .int 32, .int x3, am_du]) (st' := [.int 24, .int x3]) rfl ?_
                refine wp_icmp_f rfl (show ¬ (x3 ≤ 24) from cq77) ?_
                refine wp_run 2 (pc' := 64) (ls' := [.ref 74, .int 0, .int 32, .int x3, am_du]) (st' := [.int (-1000000001), .ref 74]) rfl ?_
                refine wp_callV (o := 74) (as := [.int (-1000000001)]) (rest := []) (els := [.ref 74, .int (-1000000001)]) rfl rfl rfl rfl rfl rfl rfl rfl (by omega) ?_
                refine sp_error1 ?_
                show am_wp L xs _ _ _ _ 67 [.ref 74, .int 0, .int 32, .int x3, am_du] [.int (-1000000001)] (am_S b) (am_u (am_u h 73 1 (h 73 1 + 1)) 77 1 ((am_u h 73 1 (h 73 1 + 1)) 77 1 + 1)) _
                refine wp_ret rfl ?_
                exact kk2 _ _ (re_err1 hR)
            · skip
              refine wp_run 2 (pc' := 70) (ls' := [.ref 0, .int 0, .int 32, .int x3, .int 1]) (st' := [.int 3, .ref 0]) rfl ?_
              refine wp_callV (o := 0) (as := [.int 3]) (rest := []) (els := [.ref 0, .int 3]) rfl rfl rfl rfl rfl rfl rfl rfl (by omega) ?_
              refine sp_refuse3 (by omega) ?_
              show am_wp L xs _ _ _ _ 73 [.ref 0, .int 0, .int 32, .int x3, .int 1] [.int (-1000000003)] (am_S b) (am_u h 73 3 (h 73 3 + 1)) _
              refine wp_ret rfl ?_
              refine kk _ _ _ (fun ms2 Q2 kk2 => ?_)
              refine wp_run 1 (pc' := 1) (ls' := [.ref 74, .int 0, .int 32, .int x3, am_du]) (st' := [.int 0]) rfl ?_
              refine wp_callS (as := [.int 0]) (rest := []) (els := [.int 0]) rfl rfl rfl rfl rfl rfl rfl rfl (by omega) ?_
              refine sp_m_isSheet (by omega) (fun _ _ _ => ?_) (fun q => absurd rfl (q 0 (by omega)))
              show am_wp L xs _ _ _ _ 4 [.ref 74, .int 0, .int 32, .int x3, am_du] [.int 1] (am_S b) (am_u h 73 3 (h 73 3 + 1)) _
              refine wp_if_f rfl (show ¬ ((1 : Int32) = 0) from by decide) ?_
              refine wp_run 1 (pc' := 8) (ls' := [.ref 74, .int 0, .int 32, .int x3, am_du]) (st' := [.int 32]) rfl ?_
              refine wp_if_f rfl (show ¬ ((32 : Int32) = 0) from by decide) ?_
              refine wp_run 2 (pc' := 14) (ls' := [.ref 74, .int 0, .int 32, .int x3, am_du]) (st' := [.int 8, .int 32]) rfl ?_
              refine wp_icmp_f rfl (show ¬ ((32 : Int32) = 8) from by decide) ?_
              refine wp_run 2 (pc' := 20) (ls' := [.ref 74, .int 0, .int 32, .int x3, am_du]) (st' := [.int 16, .int 32]) rfl ?_
              refine wp_icmp_f rfl (show ¬ ((32 : Int32) = 16) from by decide) ?_
              refine wp_run 2 (pc' := 26) (ls' := [.ref 74, .int 0, .int 32, .int x3, am_du]) (st' := [.int 32, .int 32]) rfl ?_
              refine wp_icmp_t rfl (show (32 : Int32) = 32 from by decide) ?_
              refine wp_run 1 (pc' := 37) (ls' := [.ref 74, .int 0, .int 32, .int x3, am_du]) (st' := [.int 32]) rfl ?_
              refine wp_if_f rfl (show ¬ ((32 : Int32) ≤ 0) from by decide) ?_
              refine wp_run 1 (pc' := 41) (ls' := [.ref 74, .int 0, .int 32, .int x3, am_du]) (st' := [.int x3]) rfl ?_
              refine wp_if_f rfl (show ¬ (0 ≤ x3) from cq65) ?_
              refine wp_run 2 (pc' := 47) (ls' := [.ref 74, .int 0, .int 32, .int x3, am_du]) (st' := [.int (-1000000003), .ref 74]) rfl ?_
              refine wp_callV (o := 74) (as := [.int (-1000000003)]) (rest := []) (els := [.ref 74, .int (-1000000003)]) rfl rfl rfl rfl rfl rfl rfl rfl (by omega) ?_
              refine sp_error3 ?_
              show am_wp L xs _ _ _ _ 50 [.ref 74, .int 0, .int 32, .int x3, am_du] [.int (-1000000003)] (am_S b) (am_u (am_u h 73 3 (h 73 3 + 1)) 77 3 ((am_u h 73 3 (h 73 3 + 1)) 77 3 + 1)) _
              refine wp_ret rfl ?_
              exact kk2 _ _ (re_err3 hR)
          · skip
            intro ex1
            subst ex1
            show am_wp L xs _ _ _ _ 33 [.ref 0, .int 1, .int 32, .int x3, .int 1] [.int 1] (am_S b) h _
            refine wp_if_f rfl (show ¬ ((1 : Int32) = 0) from by decide) ?_
            refine wp_run 1 (pc' := 38) (ls' := [.ref 0, .int 1, .int 32, .int x3, .int 1]) (st' := [.int 1]) rfl ?_
            refine wp_if_t rfl (show ¬ (1 : Int32) = 0 from by decide) ?_
            refine wp_run 1 (pc' := 48) (ls' := [.ref 0, .int 1, .int 32, .int x3, .int 1]) (st' := [.int 32]) rfl ?_
            refine wp_if_t rfl (show ¬ (32 : Int32) = 0 from by decide) ?_
            refine wp_run 1 (pc' := 65) (ls' := [.ref 0, .int 1, .int 32, .int x3, .int 1]) (st' := [.int x3]) rfl ?_
            refine wp_if rfl (fun (cq65 : 0 ≤ x3) => ?_) (fun (cq65 : ¬ (0 ≤ x3)) => ?_)
            · skip
              refine wp_run 2 (pc' := 77) (ls' := [.ref 0, .int 1, .int 32, .int x3, .int 1]) (st' := [.int 24, .int x3]) rfl ?_
              refine wp_icmp rfl (fun (cq77 : x3 ≤ 24) => ?_) (fun (cq77 : ¬ (x3 ≤ 24)) => ?_)
              · skip
                obtain ⟨k3, hk3, ek3⟩ := pu_of (m := 24) (by omega) cq65 cq77
                subst ek3
                refine wp_run 1 (pc' := 87) (ls' := [.ref 0, .int 1, .int 32, .int (nI k3), .int 1]) (st' := [.ref 0]) rfl ?_
                refine wp_getr 64 rfl rfl rfl ?_
                refine wp_run 1 (pc' := 91) (ls' := [.ref 0, .int 1, .int 32, .int (nI k3), .int 1]) (st' := [.int 1, .ref 64]) rfl ?_
                refine wp_aald (r := 67) rfl rfl (Or.inr rfl) rfl (by decide) rfl rfl ?_
                refine wp_run 2 (pc' := 94) (ls' := [.ref 0, .int 1, .int 32, .int (nI k3), .int 1]) (st' := [.int (nI k3), .int 32, .ref 67]) rfl ?_
                refine wp_callV (o := 67) (as := [.int 32, .int (nI k3)]) (rest := []) (els := [.ref 67, .int 32, .int (nI k3), am_du]) rfl rfl rfl rfl rfl rfl rfl rfl (by omega) ?_
                refine sp_lay (o := 67) rfl rfl rfl ?_
                show am_wp L xs _ _ _ _ 97 [.ref 0, .int 1, .int 32, .int (nI k3), .int 1] [] (am_S b) (am_ur (am_u (am_u h 67 1 32) 67 2 (nI k3)) 68 (sh_zf ((am_u (am_u h 67 1 32) 67 2 (nI k3)) 68) 24)) _
                refine wp_run 1 (pc' := 98) (ls' := [.ref 0, .int 1, .int 32, .int (nI k3), .int 1]) (st' := [.int 1]) rfl ?_
                refine wp_ret rfl ?_
                refine kk _ _ _ (fun ms2 Q2 kk2 => ?_)
                refine wp_run 1 (pc' := 1) (ls' := [.ref 74, .int 1, .int 32, .int (nI k3), am_du]) (st' := [.int 1]) rfl ?_
                refine wp_callS (as := [.int 1]) (rest := []) (els := [.int 1]) rfl rfl rfl rfl rfl rfl rfl rfl (by omega) ?_
                refine sp_m_isSheet (by omega) (fun _ _ _ => ?_) (fun q => absurd rfl (q 1 (by omega)))
                show am_wp L xs _ _ _ _ 4 [.ref 74, .int 1, .int 32, .int (nI k3), am_du] [.int 1] (am_S b) (am_ur (am_u (am_u h 67 1 32) 67 2 (nI k3)) 68 (sh_zf ((am_u (am_u h 67 1 32) 67 2 (nI k3)) 68) 24)) _
                refine wp_if_f rfl (show ¬ ((1 : Int32) = 0) from by decide) ?_
                refine wp_run 1 (pc' := 8) (ls' := [.ref 74, .int 1, .int 32, .int (nI k3), am_du]) (st' := [.int 32]) rfl ?_
                refine wp_if_f rfl (show ¬ ((32 : Int32) = 0) from by decide) ?_
                refine wp_run 2 (pc' := 14) (ls' := [.ref 74, .int 1, .int 32, .int (nI k3), am_du]) (st' := [.int 8, .int 32]) rfl ?_
                refine wp_icmp_f rfl (show ¬ ((32 : Int32) = 8) from by decide) ?_
                refine wp_run 2 (pc' := 20) (ls' := [.ref 74, .int 1, .int 32, .int (nI k3), am_du]) (st' := [.int 16, .int 32]) rfl ?_
                refine wp_icmp_f rfl (show ¬ ((32 : Int32) = 16) from by decide) ?_
                refine wp_run 2 (pc' := 26) (ls' := [.ref 74, .int 1, .int 32, .int (nI k3), am_du]) (st' := [.int 32, .int 32]) rfl ?_
                refine wp_icmp_t rfl (show (32 : Int32) = 32 from by decide) ?_
                refine wp_run 1 (pc' := 37) (ls' := [.ref 74, .int 1, .int 32, .int (nI k3), am_du]) (st' := [.int 32]) rfl ?_
                refine wp_if_f rfl (show ¬ ((32 : Int32) ≤ 0) from by decide) ?_
                refine wp_run 1 (pc' := 41) (ls' := [.ref 74, .int 1, .int 32, .int (nI k3), am_du]) (st' := [.int (nI k3)]) rfl ?_
                refine wp_if_t rfl (show 0 ≤ (nI k3) from (nI_leI (a := 0) (b := k3) (by omega) (by omega)).mpr (by omega)) ?_
                refine wp_run 1 (pc' := 52) (ls' := [.ref 74, .int 1, .int 32, .int (nI k3), am_du]) (st' := [.int 32]) rfl ?_
                refine wp_if_f rfl (show ¬ ((32 : Int32) ≤ 0) from by decide) ?_
                refine wp_run 2 (pc' := 58) (ls' := [.ref 74, .int 1, .int 32, .int (nI k3), am_du]) (st' := [.int 24, .int (nI k3)]) rfl ?_
                refine wp_icmp_t rfl (show (nI k3) ≤ 24 from (nI_leI (a := k3) (b := 24) (by omega) (by omega)).mpr (by omega)) ?_
                refine wp_run 1 (pc' := 69) (ls' := [.ref 74, .int 1, .int 32, .int (nI k3), am_du]) (st' := [.ref 74]) rfl ?_
                refine wp_getr 78 rfl rfl rfl ?_
                refine wp_run 2 (pc' := 74) (ls' := [.ref 74, .int 1, .int 32, .int (nI k3), am_du]) (st' := [.int 32, .int 1, .ref 78]) rfl ?_
                refine wp_ast rfl rfl rfl (by decide) rfl ?_
                refine wp_run 1 (pc' := 76) (ls' := [.ref 74, .int 1, .int 32, .int (nI k3), am_du]) (st' := [.ref 74]) rfl ?_
                refine wp_getr 79 rfl rfl rfl ?_
                refine wp_run 2 (pc' := 81) (ls' := [.ref 74, .int 1, .int 32, .int (nI k3), am_du]) (st' := [.int 32, .int 1, .ref 79]) rfl ?_
                refine wp_if_t rfl (show ¬ (32 : Int32) = 0 from by decide) ?_
                refine wp_run 1 (pc' := 89) (ls' := [.ref 74, .int 1, .int 32, .int (nI k3), am_du]) (st' := [.int (nI k3), .int 1, .ref 79]) rfl ?_
                refine wp_ast rfl rfl rfl (by decide) rfl ?_
                refine wp_run 2 (pc' := 93) (ls' := [.ref 74, .int 1, .int 32, .int (nI k3), .int 0]) (st' := []) rfl ?_
                have hp := lp_sheet (L := L) (xs := xs) (d := d) (ms := ms2) (b := b) (h := (am_u (am_u (am_ur (am_u (am_u h 67 1 32) 67 2 (nI k3)) 68 (sh_zf ((am_u (am_u h 67 1 32) 67 2 (nI k3)) 68) 24)) 78 1 32) 79 1 (nI k3))) (s := 1) (b2 := 32) (b3 := (nI k3)) (Q := Q2) (by omega) ?_ 24 0 (by omega)
                · rw [sh_zc_0] at hp; exact hp
                · exact kk2 _ _ ⟨⟨n, c, t, tp, wt, s0, s1, p0, p1, H⟩, re_im_s hI, hE, (re_sh_l hS0 (s2 := 1) (by omega) 32 (nI k3)), (re_sh_n (l := k3) (v := 32) (by omega) (Or.inr (Or.inr (Or.inr rfl)))), (re_sh_l hS2 (s2 := 1) (by omega) 32 (nI k3)), (re_sh_l hS3 (s2 := 1) (by omega) 32 (nI k3)), hT⟩
              · skip
                refine wp_run 2 (pc' := 82) (ls' := [.ref 0, .int 1, .int 32, .int x3, .int 1]) (st' := [.int 1, .ref 0]) rfl ?_
                refine wp_callV (o := 0) (as := [.int 1]) (rest := []) (els := [.ref 0, .int 1]) rfl rfl rfl rfl rfl rfl rfl rfl (by omega) ?_
                refine sp_refuse1 (by omega) ?_
                show am_wp L xs _ _ _ _ 85 [.ref 0, .int 1, .int 32, .int x3, .int 1] [.int (-1000000001)] (am_S b) (am_u h 73 1 (h 73 1 + 1)) _
                refine wp_ret rfl ?_
                refine kk _ _ _ (fun ms2 Q2 kk2 => ?_)
                refine wp_run 1 (pc' := 1) (ls' := [.ref 74, .int 1, .int 32, .int x3, am_du]) (st' := [.int 1]) rfl ?_
                refine wp_callS (as := [.int 1]) (rest := []) (els := [.int 1]) rfl rfl rfl rfl rfl rfl rfl rfl (by omega) ?_
                refine sp_m_isSheet (by omega) (fun _ _ _ => ?_) (fun q => absurd rfl (q 1 (by omega)))
                show am_wp L xs _ _ _ _ 4 [.ref 74, .int 1, .int 32, .int x3, am_du] [.int 1] (am_S b) (am_u h 73 1 (h 73 1 + 1)) _
                refine wp_if_f rfl (show ¬ ((1 : Int32) = 0) from by decide) ?_
                refine wp_run 1 (pc' := 8) (ls' := [.ref 74, .int 1, .int 32, .int x3, am_du]) (st' := [.int 32]) rfl ?_
                refine wp_if_f rfl (show ¬ ((32 : Int32) = 0) from by decide) ?_
                refine wp_run 2 (pc' := 14) (ls' := [.ref 74, .int 1, .int 32, .int x3, am_du]) (st' := [.int 8, .int 32]) rfl ?_
                refine wp_icmp_f rfl (show ¬ ((32 : Int32) = 8) from by decide) ?_
                refine wp_run 2 (pc' := 20) (ls' := [.ref 74, .int 1, .int 32, .int x3, am_du]) (st' := [.int 16, .int 32]) rfl ?_
                refine wp_icmp_f rfl (show ¬ ((32 : Int32) = 16) from by decide) ?_
                refine wp_run 2 (pc' := 26) (ls' := [.ref 74, .int 1, .int 32, .int x3, am_du]) (st' := [.int 32, .int 32]) rfl ?_
                refine wp_icmp_t rfl (show (32 : Int32) = 32 from by decide) ?_
                refine wp_run 1 (pc' := 37) (ls' := [.ref 74, .int 1, .int 32, .int x3, am_du]) (st' := [.int 32]) rfl ?_
                refine wp_if_f rfl (show ¬ ((32 : Int32) ≤ 0) from by decide) ?_
                refine wp_run 1 (pc' := 41) (ls' := [.ref 74, .int 1, .int 32, .int x3, am_du]) (st' := [.int x3]) rfl ?_
                refine wp_if_t rfl (show 0 ≤ x3 from cq65) ?_
                refine wp_run 1 (pc' := 52) (ls' := [.ref 74, .int 1, .int 32, .int x3, am_du]) (st' := [.int 32]) rfl ?_
                refine wp_if_f rfl (show ¬ ((32 : Int32) ≤ 0) from by decide) ?_
                refine wp_run 2 (pc' := 58) (ls' := [.ref 74, .int 1, .int 32, .int x3, am_du]) (st' := [.int 24, .int x3]) rfl ?_
                refine wp_icmp_f rfl (show ¬ (x3 ≤ 24) from cq77) ?_
                refine wp_run 2 (pc' := 64) (ls' := [.ref 74, .int 1, .int 32, .int x3, am_du]) (st' := [.int (-1000000001), .ref 74]) rfl ?_
                refine wp_callV (o := 74) (as := [.int (-1000000001)]) (rest := []) (els := [.ref 74, .int (-1000000001)]) rfl rfl rfl rfl rfl rfl rfl rfl (by omega) ?_
                refine sp_error1 ?_
                show am_wp L xs _ _ _ _ 67 [.ref 74, .int 1, .int 32, .int x3, am_du] [.int (-1000000001)] (am_S b) (am_u (am_u h 73 1 (h 73 1 + 1)) 77 1 ((am_u h 73 1 (h 73 1 + 1)) 77 1 + 1)) _
                refine wp_ret rfl ?_
                exact kk2 _ _ (re_err1 hR)
            · skip
              refine wp_run 2 (pc' := 70) (ls' := [.ref 0, .int 1, .int 32, .int x3, .int 1]) (st' := [.int 3, .ref 0]) rfl ?_
              refine wp_callV (o := 0) (as := [.int 3]) (rest := []) (els := [.ref 0, .int 3]) rfl rfl rfl rfl rfl rfl rfl rfl (by omega) ?_
              refine sp_refuse3 (by omega) ?_
              show am_wp L xs _ _ _ _ 73 [.ref 0, .int 1, .int 32, .int x3, .int 1] [.int (-1000000003)] (am_S b) (am_u h 73 3 (h 73 3 + 1)) _
              refine wp_ret rfl ?_
              refine kk _ _ _ (fun ms2 Q2 kk2 => ?_)
              refine wp_run 1 (pc' := 1) (ls' := [.ref 74, .int 1, .int 32, .int x3, am_du]) (st' := [.int 1]) rfl ?_
              refine wp_callS (as := [.int 1]) (rest := []) (els := [.int 1]) rfl rfl rfl rfl rfl rfl rfl rfl (by omega) ?_
              refine sp_m_isSheet (by omega) (fun _ _ _ => ?_) (fun q => absurd rfl (q 1 (by omega)))
              show am_wp L xs _ _ _ _ 4 [.ref 74, .int 1, .int 32, .int x3, am_du] [.int 1] (am_S b) (am_u h 73 3 (h 73 3 + 1)) _
              refine wp_if_f rfl (show ¬ ((1 : Int32) = 0) from by decide) ?_
              refine wp_run 1 (pc' := 8) (ls' := [.ref 74, .int 1, .int 32, .int x3, am_du]) (st' := [.int 32]) rfl ?_
              refine wp_if_f rfl (show ¬ ((32 : Int32) = 0) from by decide) ?_
              refine wp_run 2 (pc' := 14) (ls' := [.ref 74, .int 1, .int 32, .int x3, am_du]) (st' := [.int 8, .int 32]) rfl ?_
              refine wp_icmp_f rfl (show ¬ ((32 : Int32) = 8) from by decide) ?_
              refine wp_run 2 (pc' := 20) (ls' := [.ref 74, .int 1, .int 32, .int x3, am_du]) (st' := [.int 16, .int 32]) rfl ?_
              refine wp_icmp_f rfl (show ¬ ((32 : Int32) = 16) from by decide) ?_
              refine wp_run 2 (pc' := 26) (ls' := [.ref 74, .int 1, .int 32, .int x3, am_du]) (st' := [.int 32, .int 32]) rfl ?_
              refine wp_icmp_t rfl (show (32 : Int32) = 32 from by decide) ?_
              refine wp_run 1 (pc' := 37) (ls' := [.ref 74, .int 1, .int 32, .int x3, am_du]) (st' := [.int 32]) rfl ?_
              refine wp_if_f rfl (show ¬ ((32 : Int32) ≤ 0) from by decide) ?_
              refine wp_run 1 (pc' := 41) (ls' := [.ref 74, .int 1, .int 32, .int x3, am_du]) (st' := [.int x3]) rfl ?_
              refine wp_if_f rfl (show ¬ (0 ≤ x3) from cq65) ?_
              refine wp_run 2 (pc' := 47) (ls' := [.ref 74, .int 1, .int 32, .int x3, am_du]) (st' := [.int (-1000000003), .ref 74]) rfl ?_
              refine wp_callV (o := 74) (as := [.int (-1000000003)]) (rest := []) (els := [.ref 74, .int (-1000000003)]) rfl rfl rfl rfl rfl rfl rfl rfl (by omega) ?_
              refine sp_error3 ?_
              show am_wp L xs _ _ _ _ 50 [.ref 74, .int 1, .int 32, .int x3, am_du] [.int (-1000000003)] (am_S b) (am_u (am_u h 73 3 (h 73 3 + 1)) 77 3 ((am_u h 73 3 (h 73 3 + 1)) 77 3 + 1)) _
              refine wp_ret rfl ?_
              exact kk2 _ _ (re_err3 hR)
          · skip
            intro ex1
            subst ex1
            show am_wp L xs _ _ _ _ 33 [.ref 0, .int 2, .int 32, .int x3, .int 1] [.int 1] (am_S b) h _
            refine wp_if_f rfl (show ¬ ((1 : Int32) = 0) from by decide) ?_
            refine wp_run 1 (pc' := 38) (ls' := [.ref 0, .int 2, .int 32, .int x3, .int 1]) (st' := [.int 1]) rfl ?_
            refine wp_if_t rfl (show ¬ (1 : Int32) = 0 from by decide) ?_
            refine wp_run 1 (pc' := 48) (ls' := [.ref 0, .int 2, .int 32, .int x3, .int 1]) (st' := [.int 32]) rfl ?_
            refine wp_if_t rfl (show ¬ (32 : Int32) = 0 from by decide) ?_
            refine wp_run 1 (pc' := 65) (ls' := [.ref 0, .int 2, .int 32, .int x3, .int 1]) (st' := [.int x3]) rfl ?_
            refine wp_if rfl (fun (cq65 : 0 ≤ x3) => ?_) (fun (cq65 : ¬ (0 ≤ x3)) => ?_)
            · skip
              refine wp_run 2 (pc' := 77) (ls' := [.ref 0, .int 2, .int 32, .int x3, .int 1]) (st' := [.int 24, .int x3]) rfl ?_
              refine wp_icmp rfl (fun (cq77 : x3 ≤ 24) => ?_) (fun (cq77 : ¬ (x3 ≤ 24)) => ?_)
              · skip
                obtain ⟨k3, hk3, ek3⟩ := pu_of (m := 24) (by omega) cq65 cq77
                subst ek3
                refine wp_run 1 (pc' := 87) (ls' := [.ref 0, .int 2, .int 32, .int (nI k3), .int 1]) (st' := [.ref 0]) rfl ?_
                refine wp_getr 64 rfl rfl rfl ?_
                refine wp_run 1 (pc' := 91) (ls' := [.ref 0, .int 2, .int 32, .int (nI k3), .int 1]) (st' := [.int 2, .ref 64]) rfl ?_
                refine wp_aald (r := 69) rfl rfl (Or.inr rfl) rfl (by decide) rfl rfl ?_
                refine wp_run 2 (pc' := 94) (ls' := [.ref 0, .int 2, .int 32, .int (nI k3), .int 1]) (st' := [.int (nI k3), .int 32, .ref 69]) rfl ?_
                refine wp_callV (o := 69) (as := [.int 32, .int (nI k3)]) (rest := []) (els := [.ref 69, .int 32, .int (nI k3), am_du]) rfl rfl rfl rfl rfl rfl rfl rfl (by omega) ?_
                refine sp_lay (o := 69) rfl rfl rfl ?_
                show am_wp L xs _ _ _ _ 97 [.ref 0, .int 2, .int 32, .int (nI k3), .int 1] [] (am_S b) (am_ur (am_u (am_u h 69 1 32) 69 2 (nI k3)) 70 (sh_zf ((am_u (am_u h 69 1 32) 69 2 (nI k3)) 70) 24)) _
                refine wp_run 1 (pc' := 98) (ls' := [.ref 0, .int 2, .int 32, .int (nI k3), .int 1]) (st' := [.int 1]) rfl ?_
                refine wp_ret rfl ?_
                refine kk _ _ _ (fun ms2 Q2 kk2 => ?_)
                refine wp_run 1 (pc' := 1) (ls' := [.ref 74, .int 2, .int 32, .int (nI k3), am_du]) (st' := [.int 2]) rfl ?_
                refine wp_callS (as := [.int 2]) (rest := []) (els := [.int 2]) rfl rfl rfl rfl rfl rfl rfl rfl (by omega) ?_
                refine sp_m_isSheet (by omega) (fun _ _ _ => ?_) (fun q => absurd rfl (q 2 (by omega)))
                show am_wp L xs _ _ _ _ 4 [.ref 74, .int 2, .int 32, .int (nI k3), am_du] [.int 1] (am_S b) (am_ur (am_u (am_u h 69 1 32) 69 2 (nI k3)) 70 (sh_zf ((am_u (am_u h 69 1 32) 69 2 (nI k3)) 70) 24)) _
                refine wp_if_f rfl (show ¬ ((1 : Int32) = 0) from by decide) ?_
                refine wp_run 1 (pc' := 8) (ls' := [.ref 74, .int 2, .int 32, .int (nI k3), am_du]) (st' := [.int 32]) rfl ?_
                refine wp_if_f rfl (show ¬ ((32 : Int32) = 0) from by decide) ?_
                refine wp_run 2 (pc' := 14) (ls' := [.ref 74, .int 2, .int 32, .int (nI k3), am_du]) (st' := [.int 8, .int 32]) rfl ?_
                refine wp_icmp_f rfl (show ¬ ((32 : Int32) = 8) from by decide) ?_
                refine wp_run 2 (pc' := 20) (ls' := [.ref 74, .int 2, .int 32, .int (nI k3), am_du]) (st' := [.int 16, .int 32]) rfl ?_
                refine wp_icmp_f rfl (show ¬ ((32 : Int32) = 16) from by decide) ?_
                refine wp_run 2 (pc' := 26) (ls' := [.ref 74, .int 2, .int 32, .int (nI k3), am_du]) (st' := [.int 32, .int 32]) rfl ?_
                refine wp_icmp_t rfl (show (32 : Int32) = 32 from by decide) ?_
                refine wp_run 1 (pc' := 37) (ls' := [.ref 74, .int 2, .int 32, .int (nI k3), am_du]) (st' := [.int 32]) rfl ?_
                refine wp_if_f rfl (show ¬ ((32 : Int32) ≤ 0) from by decide) ?_
                refine wp_run 1 (pc' := 41) (ls' := [.ref 74, .int 2, .int 32, .int (nI k3), am_du]) (st' := [.int (nI k3)]) rfl ?_
                refine wp_if_t rfl (show 0 ≤ (nI k3) from (nI_leI (a := 0) (b := k3) (by omega) (by omega)).mpr (by omega)) ?_
                refine wp_run 1 (pc' := 52) (ls' := [.ref 74, .int 2, .int 32, .int (nI k3), am_du]) (st' := [.int 32]) rfl ?_
                refine wp_if_f rfl (show ¬ ((32 : Int32) ≤ 0) from by decide) ?_
                refine wp_run 2 (pc' := 58) (ls' := [.ref 74, .int 2, .int 32, .int (nI k3), am_du]) (st' := [.int 24, .int (nI k3)]) rfl ?_
                refine wp_icmp_t rfl (show (nI k3) ≤ 24 from (nI_leI (a := k3) (b := 24) (by omega) (by omega)).mpr (by omega)) ?_
                refine wp_run 1 (pc' := 69) (ls' := [.ref 74, .int 2, .int 32, .int (nI k3), am_du]) (st' := [.ref 74]) rfl ?_
                refine wp_getr 78 rfl rfl rfl ?_
                refine wp_run 2 (pc' := 74) (ls' := [.ref 74, .int 2, .int 32, .int (nI k3), am_du]) (st' := [.int 32, .int 2, .ref 78]) rfl ?_
                refine wp_ast rfl rfl rfl (by decide) rfl ?_
                refine wp_run 1 (pc' := 76) (ls' := [.ref 74, .int 2, .int 32, .int (nI k3), am_du]) (st' := [.ref 74]) rfl ?_
                refine wp_getr 79 rfl rfl rfl ?_
                refine wp_run 2 (pc' := 81) (ls' := [.ref 74, .int 2, .int 32, .int (nI k3), am_du]) (st' := [.int 32, .int 2, .ref 79]) rfl ?_
                refine wp_if_t rfl (show ¬ (32 : Int32) = 0 from by decide) ?_
                refine wp_run 1 (pc' := 89) (ls' := [.ref 74, .int 2, .int 32, .int (nI k3), am_du]) (st' := [.int (nI k3), .int 2, .ref 79]) rfl ?_
                refine wp_ast rfl rfl rfl (by decide) rfl ?_
                refine wp_run 2 (pc' := 93) (ls' := [.ref 74, .int 2, .int 32, .int (nI k3), .int 0]) (st' := []) rfl ?_
                have hp := lp_sheet (L := L) (xs := xs) (d := d) (ms := ms2) (b := b) (h := (am_u (am_u (am_ur (am_u (am_u h 69 1 32) 69 2 (nI k3)) 70 (sh_zf ((am_u (am_u h 69 1 32) 69 2 (nI k3)) 70) 24)) 78 2 32) 79 2 (nI k3))) (s := 2) (b2 := 32) (b3 := (nI k3)) (Q := Q2) (by omega) ?_ 24 0 (by omega)
                · rw [sh_zc_0] at hp; exact hp
                · exact kk2 _ _ ⟨⟨n, c, t, tp, wt, s0, s1, p0, p1, H⟩, re_im_s hI, hE, (re_sh_l hS0 (s2 := 2) (by omega) 32 (nI k3)), (re_sh_l hS1 (s2 := 2) (by omega) 32 (nI k3)), (re_sh_n (l := k3) (v := 32) (by omega) (Or.inr (Or.inr (Or.inr rfl)))), (re_sh_l hS3 (s2 := 2) (by omega) 32 (nI k3)), hT⟩
              · skip
                refine wp_run 2 (pc' := 82) (ls' := [.ref 0, .int 2, .int 32, .int x3, .int 1]) (st' := [.int 1, .ref 0]) rfl ?_
                refine wp_callV (o := 0) (as := [.int 1]) (rest := []) (els := [.ref 0, .int 1]) rfl rfl rfl rfl rfl rfl rfl rfl (by omega) ?_
                refine sp_refuse1 (by omega) ?_
                show am_wp L xs _ _ _ _ 85 [.ref 0, .int 2, .int 32, .int x3, .int 1] [.int (-1000000001)] (am_S b) (am_u h 73 1 (h 73 1 + 1)) _
                refine wp_ret rfl ?_
                refine kk _ _ _ (fun ms2 Q2 kk2 => ?_)
                refine wp_run 1 (pc' := 1) (ls' := [.ref 74, .int 2, .int 32, .int x3, am_du]) (st' := [.int 2]) rfl ?_
                refine wp_callS (as := [.int 2]) (rest := []) (els := [.int 2]) rfl rfl rfl rfl rfl rfl rfl rfl (by omega) ?_
                refine sp_m_isSheet (by omega) (fun _ _ _ => ?_) (fun q => absurd rfl (q 2 (by omega)))
                show am_wp L xs _ _ _ _ 4 [.ref 74, .int 2, .int 32, .int x3, am_du] [.int 1] (am_S b) (am_u h 73 1 (h 73 1 + 1)) _
                refine wp_if_f rfl (show ¬ ((1 : Int32) = 0) from by decide) ?_
                refine wp_run 1 (pc' := 8) (ls' := [.ref 74, .int 2, .int 32, .int x3, am_du]) (st' := [.int 32]) rfl ?_
                refine wp_if_f rfl (show ¬ ((32 : Int32) = 0) from by decide) ?_
                refine wp_run 2 (pc' := 14) (ls' := [.ref 74, .int 2, .int 32, .int x3, am_du]) (st' := [.int 8, .int 32]) rfl ?_
                refine wp_icmp_f rfl (show ¬ ((32 : Int32) = 8) from by decide) ?_
                refine wp_run 2 (pc' := 20) (ls' := [.ref 74, .int 2, .int 32, .int x3, am_du]) (st' := [.int 16, .int 32]) rfl ?_
                refine wp_icmp_f rfl (show ¬ ((32 : Int32) = 16) from by decide) ?_
                refine wp_run 2 (pc' := 26) (ls' := [.ref 74, .int 2, .int 32, .int x3, am_du]) (st' := [.int 32, .int 32]) rfl ?_
                refine wp_icmp_t rfl (show (32 : Int32) = 32 from by decide) ?_
                refine wp_run 1 (pc' := 37) (ls' := [.ref 74, .int 2, .int 32, .int x3, am_du]) (st' := [.int 32]) rfl ?_
                refine wp_if_f rfl (show ¬ ((32 : Int32) ≤ 0) from by decide) ?_
                refine wp_run 1 (pc' := 41) (ls' := [.ref 74, .int 2, .int 32, .int x3, am_du]) (st' := [.int x3]) rfl ?_
                refine wp_if_t rfl (show 0 ≤ x3 from cq65) ?_
                refine wp_run 1 (pc' := 52) (ls' := [.ref 74, .int 2, .int 32, .int x3, am_du]) (st' := [.int 32]) rfl ?_
                refine wp_if_f rfl (show ¬ ((32 : Int32) ≤ 0) from by decide) ?_
                refine wp_run 2 (pc' := 58) (ls' := [.ref 74, .int 2, .int 32, .int x3, am_du]) (st' := [.int 24, .int x3]) rfl ?_
                refine wp_icmp_f rfl (show ¬ (x3 ≤ 24) from cq77) ?_
                refine wp_run 2 (pc' := 64) (ls' := [.ref 74, .int 2, .int 32, .int x3, am_du]) (st' := [.int (-1000000001), .ref 74]) rfl ?_
                refine wp_callV (o := 74) (as := [.int (-1000000001)]) (rest := []) (els := [.ref 74, .int (-1000000001)]) rfl rfl rfl rfl rfl rfl rfl rfl (by omega) ?_
                refine sp_error1 ?_
                show am_wp L xs _ _ _ _ 67 [.ref 74, .int 2, .int 32, .int x3, am_du] [.int (-1000000001)] (am_S b) (am_u (am_u h 73 1 (h 73 1 + 1)) 77 1 ((am_u h 73 1 (h 73 1 + 1)) 77 1 + 1)) _
                refine wp_ret rfl ?_
                exact kk2 _ _ (re_err1 hR)
            · skip
              refine wp_run 2 (pc' := 70) (ls' := [.ref 0, .int 2, .int 32, .int x3, .int 1]) (st' := [.int 3, .ref 0]) rfl ?_
              refine wp_callV (o := 0) (as := [.int 3]) (rest := []) (els := [.ref 0, .int 3]) rfl rfl rfl rfl rfl rfl rfl rfl (by omega) ?_
              refine sp_refuse3 (by omega) ?_
              show am_wp L xs _ _ _ _ 73 [.ref 0, .int 2, .int 32, .int x3, .int 1] [.int (-1000000003)] (am_S b) (am_u h 73 3 (h 73 3 + 1)) _
              refine wp_ret rfl ?_
              refine kk _ _ _ (fun ms2 Q2 kk2 => ?_)
              refine wp_run 1 (pc' := 1) (ls' := [.ref 74, .int 2, .int 32, .int x3, am_du]) (st' := [.int 2]) rfl ?_
              refine wp_callS (as := [.int 2]) (rest := []) (els := [.int 2]) rfl rfl rfl rfl rfl rfl rfl rfl (by omega) ?_
              refine sp_m_isSheet (by omega) (fun _ _ _ => ?_) (fun q => absurd rfl (q 2 (by omega)))
              show am_wp L xs _ _ _ _ 4 [.ref 74, .int 2, .int 32, .int x3, am_du] [.int 1] (am_S b) (am_u h 73 3 (h 73 3 + 1)) _
              refine wp_if_f rfl (show ¬ ((1 : Int32) = 0) from by decide) ?_
              refine wp_run 1 (pc' := 8) (ls' := [.ref 74, .int 2, .int 32, .int x3, am_du]) (st' := [.int 32]) rfl ?_
              refine wp_if_f rfl (show ¬ ((32 : Int32) = 0) from by decide) ?_
              refine wp_run 2 (pc' := 14) (ls' := [.ref 74, .int 2, .int 32, .int x3, am_du]) (st' := [.int 8, .int 32]) rfl ?_
              refine wp_icmp_f rfl (show ¬ ((32 : Int32) = 8) from by decide) ?_
              refine wp_run 2 (pc' := 20) (ls' := [.ref 74, .int 2, .int 32, .int x3, am_du]) (st' := [.int 16, .int 32]) rfl ?_
              refine wp_icmp_f rfl (show ¬ ((32 : Int32) = 16) from by decide) ?_
              refine wp_run 2 (pc' := 26) (ls' := [.ref 74, .int 2, .int 32, .int x3, am_du]) (st' := [.int 32, .int 32]) rfl ?_
              refine wp_icmp_t rfl (show (32 : Int32) = 32 from by decide) ?_
              refine wp_run 1 (pc' := 37) (ls' := [.ref 74, .int 2, .int 32, .int x3, am_du]) (st' := [.int 32]) rfl ?_
              refine wp_if_f rfl (show ¬ ((32 : Int32) ≤ 0) from by decide) ?_
              refine wp_run 1 (pc' := 41) (ls' := [.ref 74, .int 2, .int 32, .int x3, am_du]) (st' := [.int x3]) rfl ?_
              refine wp_if_f rfl (show ¬ (0 ≤ x3) from cq65) ?_
              refine wp_run 2 (pc' := 47) (ls' := [.ref 74, .int 2, .int 32, .int x3, am_du]) (st' := [.int (-1000000003), .ref 74]) rfl ?_
              refine wp_callV (o := 74) (as := [.int (-1000000003)]) (rest := []) (els := [.ref 74, .int (-1000000003)]) rfl rfl rfl rfl rfl rfl rfl rfl (by omega) ?_
              refine sp_error3 ?_
              show am_wp L xs _ _ _ _ 50 [.ref 74, .int 2, .int 32, .int x3, am_du] [.int (-1000000003)] (am_S b) (am_u (am_u h 73 3 (h 73 3 + 1)) 77 3 ((am_u h 73 3 (h 73 3 + 1)) 77 3 + 1)) _
              refine wp_ret rfl ?_
              exact kk2 _ _ (re_err3 hR)
          · skip
            intro ex1
            subst ex1
            show am_wp L xs _ _ _ _ 33 [.ref 0, .int 3, .int 32, .int x3, .int 1] [.int 1] (am_S b) h _
            refine wp_if_f rfl (show ¬ ((1 : Int32) = 0) from by decide) ?_
            refine wp_run 1 (pc' := 38) (ls' := [.ref 0, .int 3, .int 32, .int x3, .int 1]) (st' := [.int 1]) rfl ?_
            refine wp_if_t rfl (show ¬ (1 : Int32) = 0 from by decide) ?_
            refine wp_run 1 (pc' := 48) (ls' := [.ref 0, .int 3, .int 32, .int x3, .int 1]) (st' := [.int 32]) rfl ?_
            refine wp_if_t rfl (show ¬ (32 : Int32) = 0 from by decide) ?_
            refine wp_run 1 (pc' := 65) (ls' := [.ref 0, .int 3, .int 32, .int x3, .int 1]) (st' := [.int x3]) rfl ?_
            refine wp_if rfl (fun (cq65 : 0 ≤ x3) => ?_) (fun (cq65 : ¬ (0 ≤ x3)) => ?_)
            · skip
              refine wp_run 2 (pc' := 77) (ls' := [.ref 0, .int 3, .int 32, .int x3, .int 1]) (st' := [.int 24, .int x3]) rfl ?_
              refine wp_icmp rfl (fun (cq77 : x3 ≤ 24) => ?_) (fun (cq77 : ¬ (x3 ≤ 24)) => ?_)
              · skip
                obtain ⟨k3, hk3, ek3⟩ := pu_of (m := 24) (by omega) cq65 cq77
                subst ek3
                refine wp_run 1 (pc' := 87) (ls' := [.ref 0, .int 3, .int 32, .int (nI k3), .int 1]) (st' := [.ref 0]) rfl ?_
                refine wp_getr 64 rfl rfl rfl ?_
                refine wp_run 1 (pc' := 91) (ls' := [.ref 0, .int 3, .int 32, .int (nI k3), .int 1]) (st' := [.int 3, .ref 64]) rfl ?_
                refine wp_aald (r := 71) rfl rfl (Or.inr rfl) rfl (by decide) rfl rfl ?_
                refine wp_run 2 (pc' := 94) (ls' := [.ref 0, .int 3, .int 32, .int (nI k3), .int 1]) (st' := [.int (nI k3), .int 32, .ref 71]) rfl ?_
                refine wp_callV (o := 71) (as := [.int 32, .int (nI k3)]) (rest := []) (els := [.ref 71, .int 32, .int (nI k3), am_du]) rfl rfl rfl rfl rfl rfl rfl rfl (by omega) ?_
                refine sp_lay (o := 71) rfl rfl rfl ?_
                show am_wp L xs _ _ _ _ 97 [.ref 0, .int 3, .int 32, .int (nI k3), .int 1] [] (am_S b) (am_ur (am_u (am_u h 71 1 32) 71 2 (nI k3)) 72 (sh_zf ((am_u (am_u h 71 1 32) 71 2 (nI k3)) 72) 24)) _
                refine wp_run 1 (pc' := 98) (ls' := [.ref 0, .int 3, .int 32, .int (nI k3), .int 1]) (st' := [.int 1]) rfl ?_
                refine wp_ret rfl ?_
                refine kk _ _ _ (fun ms2 Q2 kk2 => ?_)
                refine wp_run 1 (pc' := 1) (ls' := [.ref 74, .int 3, .int 32, .int (nI k3), am_du]) (st' := [.int 3]) rfl ?_
                refine wp_callS (as := [.int 3]) (rest := []) (els := [.int 3]) rfl rfl rfl rfl rfl rfl rfl rfl (by omega) ?_
                refine sp_m_isSheet (by omega) (fun _ _ _ => ?_) (fun q => absurd rfl (q 3 (by omega)))
                show am_wp L xs _ _ _ _ 4 [.ref 74, .int 3, .int 32, .int (nI k3), am_du] [.int 1] (am_S b) (am_ur (am_u (am_u h 71 1 32) 71 2 (nI k3)) 72 (sh_zf ((am_u (am_u h 71 1 32) 71 2 (nI k3)) 72) 24)) _
                refine wp_if_f rfl (show ¬ ((1 : Int32) = 0) from by decide) ?_
                refine wp_run 1 (pc' := 8) (ls' := [.ref 74, .int 3, .int 32, .int (nI k3), am_du]) (st' := [.int 32]) rfl ?_
                refine wp_if_f rfl (show ¬ ((32 : Int32) = 0) from by decide) ?_
                refine wp_run 2 (pc' := 14) (ls' := [.ref 74, .int 3, .int 32, .int (nI k3), am_du]) (st' := [.int 8, .int 32]) rfl ?_
                refine wp_icmp_f rfl (show ¬ ((32 : Int32) = 8) from by decide) ?_
                refine wp_run 2 (pc' := 20) (ls' := [.ref 74, .int 3, .int 32, .int (nI k3), am_du]) (st' := [.int 16, .int 32]) rfl ?_
                refine wp_icmp_f rfl (show ¬ ((32 : Int32) = 16) from by decide) ?_
                refine wp_run 2 (pc' := 26) (ls' := [.ref 74, .int 3, .int 32, .int (nI k3), am_du]) (st' := [.int 32, .int 32]) rfl ?_
                refine wp_icmp_t rfl (show (32 : Int32) = 32 from by decide) ?_
                refine wp_run 1 (pc' := 37) (ls' := [.ref 74, .int 3, .int 32, .int (nI k3), am_du]) (st' := [.int 32]) rfl ?_
                refine wp_if_f rfl (show ¬ ((32 : Int32) ≤ 0) from by decide) ?_
                refine wp_run 1 (pc' := 41) (ls' := [.ref 74, .int 3, .int 32, .int (nI k3), am_du]) (st' := [.int (nI k3)]) rfl ?_
                refine wp_if_t rfl (show 0 ≤ (nI k3) from (nI_leI (a := 0) (b := k3) (by omega) (by omega)).mpr (by omega)) ?_
                refine wp_run 1 (pc' := 52) (ls' := [.ref 74, .int 3, .int 32, .int (nI k3), am_du]) (st' := [.int 32]) rfl ?_
                refine wp_if_f rfl (show ¬ ((32 : Int32) ≤ 0) from by decide) ?_
                refine wp_run 2 (pc' := 58) (ls' := [.ref 74, .int 3, .int 32, .int (nI k3), am_du]) (st' := [.int 24, .int (nI k3)]) rfl ?_
                refine wp_icmp_t rfl (show (nI k3) ≤ 24 from (nI_leI (a := k3) (b := 24) (by omega) (by omega)).mpr (by omega)) ?_
                refine wp_run 1 (pc' := 69) (ls' := [.ref 74, .int 3, .int 32, .int (nI k3), am_du]) (st' := [.ref 74]) rfl ?_
                refine wp_getr 78 rfl rfl rfl ?_
                refine wp_run 2 (pc' := 74) (ls' := [.ref 74, .int 3, .int 32, .int (nI k3), am_du]) (st' := [.int 32, .int 3, .ref 78]) rfl ?_
                refine wp_ast rfl rfl rfl (by decide) rfl ?_
                refine wp_run 1 (pc' := 76) (ls' := [.ref 74, .int 3, .int 32, .int (nI k3), am_du]) (st' := [.ref 74]) rfl ?_
                refine wp_getr 79 rfl rfl rfl ?_
                refine wp_run 2 (pc' := 81) (ls' := [.ref 74, .int 3, .int 32, .int (nI k3), am_du]) (st' := [.int 32, .int 3, .ref 79]) rfl ?_
                refine wp_if_t rfl (show ¬ (32 : Int32) = 0 from by decide) ?_
                refine wp_run 1 (pc' := 89) (ls' := [.ref 74, .int 3, .int 32, .int (nI k3), am_du]) (st' := [.int (nI k3), .int 3, .ref 79]) rfl ?_
                refine wp_ast rfl rfl rfl (by decide) rfl ?_
                refine wp_run 2 (pc' := 93) (ls' := [.ref 74, .int 3, .int 32, .int (nI k3), .int 0]) (st' := []) rfl ?_
                have hp := lp_sheet (L := L) (xs := xs) (d := d) (ms := ms2) (b := b) (h := (am_u (am_u (am_ur (am_u (am_u h 71 1 32) 71 2 (nI k3)) 72 (sh_zf ((am_u (am_u h 71 1 32) 71 2 (nI k3)) 72) 24)) 78 3 32) 79 3 (nI k3))) (s := 3) (b2 := 32) (b3 := (nI k3)) (Q := Q2) (by omega) ?_ 24 0 (by omega)
                · rw [sh_zc_0] at hp; exact hp
                · exact kk2 _ _ ⟨⟨n, c, t, tp, wt, s0, s1, p0, p1, H⟩, re_im_s hI, hE, (re_sh_l hS0 (s2 := 3) (by omega) 32 (nI k3)), (re_sh_l hS1 (s2 := 3) (by omega) 32 (nI k3)), (re_sh_l hS2 (s2 := 3) (by omega) 32 (nI k3)), (re_sh_n (l := k3) (v := 32) (by omega) (Or.inr (Or.inr (Or.inr rfl)))), hT⟩
              · skip
                refine wp_run 2 (pc' := 82) (ls' := [.ref 0, .int 3, .int 32, .int x3, .int 1]) (st' := [.int 1, .ref 0]) rfl ?_
                refine wp_callV (o := 0) (as := [.int 1]) (rest := []) (els := [.ref 0, .int 1]) rfl rfl rfl rfl rfl rfl rfl rfl (by omega) ?_
                refine sp_refuse1 (by omega) ?_
                show am_wp L xs _ _ _ _ 85 [.ref 0, .int 3, .int 32, .int x3, .int 1] [.int (-1000000001)] (am_S b) (am_u h 73 1 (h 73 1 + 1)) _
                refine wp_ret rfl ?_
                refine kk _ _ _ (fun ms2 Q2 kk2 => ?_)
                refine wp_run 1 (pc' := 1) (ls' := [.ref 74, .int 3, .int 32, .int x3, am_du]) (st' := [.int 3]) rfl ?_
                refine wp_callS (as := [.int 3]) (rest := []) (els := [.int 3]) rfl rfl rfl rfl rfl rfl rfl rfl (by omega) ?_
                refine sp_m_isSheet (by omega) (fun _ _ _ => ?_) (fun q => absurd rfl (q 3 (by omega)))
                show am_wp L xs _ _ _ _ 4 [.ref 74, .int 3, .int 32, .int x3, am_du] [.int 1] (am_S b) (am_u h 73 1 (h 73 1 + 1)) _
                refine wp_if_f rfl (show ¬ ((1 : Int32) = 0) from by decide) ?_
                refine wp_run 1 (pc' := 8) (ls' := [.ref 74, .int 3, .int 32, .int x3, am_du]) (st' := [.int 32]) rfl ?_
                refine wp_if_f rfl (show ¬ ((32 : Int32) = 0) from by decide) ?_
                refine wp_run 2 (pc' := 14) (ls' := [.ref 74, .int 3, .int 32, .int x3, am_du]) (st' := [.int 8, .int 32]) rfl ?_
                refine wp_icmp_f rfl (show ¬ ((32 : Int32) = 8) from by decide) ?_
                refine wp_run 2 (pc' := 20) (ls' := [.ref 74, .int 3, .int 32, .int x3, am_du]) (st' := [.int 16, .int 32]) rfl ?_
                refine wp_icmp_f rfl (show ¬ ((32 : Int32) = 16) from by decide) ?_
                refine wp_run 2 (pc' := 26) (ls' := [.ref 74, .int 3, .int 32, .int x3, am_du]) (st' := [.int 32, .int 32]) rfl ?_
                refine wp_icmp_t rfl (show (32 : Int32) = 32 from by decide) ?_
                refine wp_run 1 (pc' := 37) (ls' := [.ref 74, .int 3, .int 32, .int x3, am_du]) (st' := [.int 32]) rfl ?_
                refine wp_if_f rfl (show ¬ ((32 : Int32) ≤ 0) from by decide) ?_
                refine wp_run 1 (pc' := 41) (ls' := [.ref 74, .int 3, .int 32, .int x3, am_du]) (st' := [.int x3]) rfl ?_
                refine wp_if_t rfl (show 0 ≤ x3 from cq65) ?_
                refine wp_run 1 (pc' := 52) (ls' := [.ref 74, .int 3, .int 32, .int x3, am_du]) (st' := [.int 32]) rfl ?_
                refine wp_if_f rfl (show ¬ ((32 : Int32) ≤ 0) from by decide) ?_
                refine wp_run 2 (pc' := 58) (ls' := [.ref 74, .int 3, .int 32, .int x3, am_du]) (st' := [.int 24, .int x3]) rfl ?_
                refine wp_icmp_f rfl (show ¬ (x3 ≤ 24) from cq77) ?_
                refine wp_run 2 (pc' := 64) (ls' := [.ref 74, .int 3, .int 32, .int x3, am_du]) (st' := [.int (-1000000001), .ref 74]) rfl ?_
                refine wp_callV (o := 74) (as := [.int (-1000000001)]) (rest := []) (els := [.ref 74, .int (-1000000001)]) rfl rfl rfl rfl rfl rfl rfl rfl (by omega) ?_
                refine sp_error1 ?_
                show am_wp L xs _ _ _ _ 67 [.ref 74, .int 3, .int 32, .int x3, am_du] [.int (-1000000001)] (am_S b) (am_u (am_u h 73 1 (h 73 1 + 1)) 77 1 ((am_u h 73 1 (h 73 1 + 1)) 77 1 + 1)) _
                refine wp_ret rfl ?_
                exact kk2 _ _ (re_err1 hR)
            · skip
              refine wp_run 2 (pc' := 70) (ls' := [.ref 0, .int 3, .int 32, .int x3, .int 1]) (st' := [.int 3, .ref 0]) rfl ?_
              refine wp_callV (o := 0) (as := [.int 3]) (rest := []) (els := [.ref 0, .int 3]) rfl rfl rfl rfl rfl rfl rfl rfl (by omega) ?_
              refine sp_refuse3 (by omega) ?_
              show am_wp L xs _ _ _ _ 73 [.ref 0, .int 3, .int 32, .int x3, .int 1] [.int (-1000000003)] (am_S b) (am_u h 73 3 (h 73 3 + 1)) _
              refine wp_ret rfl ?_
              refine kk _ _ _ (fun ms2 Q2 kk2 => ?_)
              refine wp_run 1 (pc' := 1) (ls' := [.ref 74, .int 3, .int 32, .int x3, am_du]) (st' := [.int 3]) rfl ?_
              refine wp_callS (as := [.int 3]) (rest := []) (els := [.int 3]) rfl rfl rfl rfl rfl rfl rfl rfl (by omega) ?_
              refine sp_m_isSheet (by omega) (fun _ _ _ => ?_) (fun q => absurd rfl (q 3 (by omega)))
              show am_wp L xs _ _ _ _ 4 [.ref 74, .int 3, .int 32, .int x3, am_du] [.int 1] (am_S b) (am_u h 73 3 (h 73 3 + 1)) _
              refine wp_if_f rfl (show ¬ ((1 : Int32) = 0) from by decide) ?_
              refine wp_run 1 (pc' := 8) (ls' := [.ref 74, .int 3, .int 32, .int x3, am_du]) (st' := [.int 32]) rfl ?_
              refine wp_if_f rfl (show ¬ ((32 : Int32) = 0) from by decide) ?_
              refine wp_run 2 (pc' := 14) (ls' := [.ref 74, .int 3, .int 32, .int x3, am_du]) (st' := [.int 8, .int 32]) rfl ?_
              refine wp_icmp_f rfl (show ¬ ((32 : Int32) = 8) from by decide) ?_
              refine wp_run 2 (pc' := 20) (ls' := [.ref 74, .int 3, .int 32, .int x3, am_du]) (st' := [.int 16, .int 32]) rfl ?_
              refine wp_icmp_f rfl (show ¬ ((32 : Int32) = 16) from by decide) ?_
              refine wp_run 2 (pc' := 26) (ls' := [.ref 74, .int 3, .int 32, .int x3, am_du]) (st' := [.int 32, .int 32]) rfl ?_
              refine wp_icmp_t rfl (show (32 : Int32) = 32 from by decide) ?_
              refine wp_run 1 (pc' := 37) (ls' := [.ref 74, .int 3, .int 32, .int x3, am_du]) (st' := [.int 32]) rfl ?_
              refine wp_if_f rfl (show ¬ ((32 : Int32) ≤ 0) from by decide) ?_
              refine wp_run 1 (pc' := 41) (ls' := [.ref 74, .int 3, .int 32, .int x3, am_du]) (st' := [.int x3]) rfl ?_
              refine wp_if_f rfl (show ¬ (0 ≤ x3) from cq65) ?_
              refine wp_run 2 (pc' := 47) (ls' := [.ref 74, .int 3, .int 32, .int x3, am_du]) (st' := [.int (-1000000003), .ref 74]) rfl ?_
              refine wp_callV (o := 74) (as := [.int (-1000000003)]) (rest := []) (els := [.ref 74, .int (-1000000003)]) rfl rfl rfl rfl rfl rfl rfl rfl (by omega) ?_
              refine sp_error3 ?_
              show am_wp L xs _ _ _ _ 50 [.ref 74, .int 3, .int 32, .int x3, am_du] [.int (-1000000003)] (am_S b) (am_u (am_u h 73 3 (h 73 3 + 1)) 77 3 ((am_u h 73 3 (h 73 3 + 1)) 77 3 + 1)) _
              refine wp_ret rfl ?_
              exact kk2 _ _ (re_err3 hR)
          · skip
            intro hnx1
            show am_wp L xs _ _ _ _ 33 [.ref 0, .int x1, .int 32, .int x3, .int 1] [.int 0] (am_S b) h _
            refine wp_if_t rfl (show (0 : Int32) = 0 from by decide) ?_
            refine wp_run 2 (pc' := 43) (ls' := [.ref 0, .int x1, .int 32, .int x3, .int 1]) (st' := [.int 1, .ref 0]) rfl ?_
            refine wp_callV (o := 0) (as := [.int 1]) (rest := []) (els := [.ref 0, .int 1]) rfl rfl rfl rfl rfl rfl rfl rfl (by omega) ?_
            refine sp_refuse1 (by omega) ?_
            show am_wp L xs _ _ _ _ 46 [.ref 0, .int x1, .int 32, .int x3, .int 1] [.int (-1000000001)] (am_S b) (am_u h 73 1 (h 73 1 + 1)) _
            refine wp_ret rfl ?_
            refine kk _ _ _ (fun ms2 Q2 kk2 => ?_)
            refine wp_run 1 (pc' := 1) (ls' := [.ref 74, .int x1, .int 32, .int x3, am_du]) (st' := [.int x1]) rfl ?_
            refine wp_callS (as := [.int x1]) (rest := []) (els := [.int x1]) rfl rfl rfl rfl rfl rfl rfl rfl (by omega) ?_
            refine sp_m_isSheet (by omega) (fun k hk e => absurd e (hnx1 k hk)) (fun _ => ?_)
            show am_wp L xs _ _ _ _ 4 [.ref 74, .int x1, .int 32, .int x3, am_du] [.int 0] (am_S b) (am_u h 73 1 (h 73 1 + 1)) _
            refine wp_if_t rfl (show (0 : Int32) = 0 from by decide) ?_
            refine wp_run 2 (pc' := 32) (ls' := [.ref 74, .int x1, .int 32, .int x3, am_du]) (st' := [.int (-1000000001), .ref 74]) rfl ?_
            refine wp_callV (o := 74) (as := [.int (-1000000001)]) (rest := []) (els := [.ref 74, .int (-1000000001)]) rfl rfl rfl rfl rfl rfl rfl rfl (by omega) ?_
            refine sp_error1 ?_
            show am_wp L xs _ _ _ _ 35 [.ref 74, .int x1, .int 32, .int x3, am_du] [.int (-1000000001)] (am_S b) (am_u (am_u h 73 1 (h 73 1 + 1)) 77 1 ((am_u h 73 1 (h 73 1 + 1)) 77 1 + 1)) _
            refine wp_ret rfl ?_
            exact kk2 _ _ (re_err1 hR)
