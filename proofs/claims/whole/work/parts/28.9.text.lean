/-! calls tied: text -/
def tr_row (m : Nat → Int32) (a1 a2 : Nat) (a w : Nat → Int32) : Nat → Nat → Int32
  | 0 => m
  | i + 1 => upd (upd (tr_row m a1 a2 a w i) (a1 + i) (a i)) (a2 + i) (w i)
theorem tr_off {m a w : Nat → Int32} {a1 a2 j : Nat} : ∀ i, (j < a1 ∨ a1 + i ≤ j) → (j < a2 ∨ a2 + i ≤ j) → tr_row m a1 a2 a w i j = m j
  | 0, _, _ => rfl
  | i + 1, h1, h2 => by
    show upd (upd (tr_row m a1 a2 a w i) (a1 + i) (a i)) (a2 + i) (w i) j = _
    rw [pk_un (by omega), pk_un (by omega)]
    exact tr_off i (by omega) (by omega)
theorem tr_a {m a w : Nat → Int32} {a1 a2 q : Nat} (h : a1 + 60 ≤ a2) : ∀ i, i ≤ 60 → q < i → tr_row m a1 a2 a w i (a1 + q) = a q
  | 0, _, hq => by omega
  | i + 1, h6, hq => by
    show upd (upd (tr_row m a1 a2 a w i) (a1 + i) (a i)) (a2 + i) (w i) (a1 + q) = _
    rw [pk_un (by omega)]
    by_cases e : q = i
    · rw [e, pk_us]
    · rw [pk_un (by omega)]
      exact tr_a h i (by omega) (by omega)
theorem tr_w {m a w : Nat → Int32} {a1 a2 q : Nat} (h : a1 + 60 ≤ a2) : ∀ i, i ≤ 60 → q < i → tr_row m a1 a2 a w i (a2 + q) = w q
  | 0, _, hq => by omega
  | i + 1, h6, hq => by
    show upd (upd (tr_row m a1 a2 a w i) (a1 + i) (a i)) (a2 + i) (w i) (a2 + q) = _
    by_cases e : q = i
    · rw [e, pk_us]
    · rw [pk_un (by omega), pk_un (by omega)]
      exact tr_w h i (by omega) (by omega)
section ReTx
variable {n c t tp wt : Nat} {s0 s1 : Int32} {p0 p1 : List Int32} {o w z s e k q u tS tR aS aR l0 c0 r0 l1 c1 r1 m : Nat → Int32}
theorem re_txG {m2 : Nat → Int32} {v0 v1 : Int32} {g0 g1 : List Int32} {l0' c0' r0' l1' c1' r1' : Nat → Int32} (H : re_house n c t tp wt s0 s1 p0 p1 o w z s e k q u tS tR aS aR l0 c0 r0 l1 c1 r1 m) (h5 : m2 5 = nI 0) (hm : ∀ j, j ≠ 5 → j < 140 → m2 j = m j) (hl0 : re_law l0' c0' r0' m2 140 0 99 v0 g0) (hl1 : re_law l1' c1' r1' m2 261 (-99) 99 v1 g1) :
    re_house n c t 0 wt v0 v1 g0 g1 o w z s e k q u (upd tS 1 0) tR aS aR l0' c0' r0' l1' c1' r1' m2 := by
  refine ⟨⟨H.1.1, (hm 2 (by decide) (by decide)).trans H.1.2.1, H.1.2.2⟩, ⟨H.2.1.1, (hm 3 (by decide) (by decide)).trans H.2.1.2.1, H.2.1.2.2⟩, ⟨H.2.2.1.1, (hm 0 (by decide) (by decide)).trans H.2.2.1.2.1, H.2.2.1.2.2⟩, ⟨H.2.2.2.1.1.trans (hm 4 (by decide) (by decide)).symm, H.2.2.2.1.2.trans (hm 1 (by decide) (by decide)).symm⟩,
    re_g5 H.2.2.2.2.1 (fun i h1 h2 => hm i (by omega) (by omega)), re_g6 H.2.2.2.2.2.1 (fun i h1 h2 => hm i (by omega) (by omega)), H.2.2.2.2.2.2.1, H.2.2.2.2.2.2.2.1, ⟨rfl, h5, Nat.zero_le _, fun i hi => absurd hi (Nat.not_lt_zero _)⟩, ?_, hl0, hl1⟩
  have h9 := H.2.2.2.2.2.2.2.2.2.1
  exact ⟨h9.1, (hm 6 (by decide) (by decide)).trans h9.2.1, h9.2.2.1, re_g10 h9.2.2.1 h9.2.2.2 (fun i h1 h2 => hm i (by omega) (by omega))⟩
end ReTx
theorem re_law_n {l c r m : Nat → Int32} {at_ : Nat} {lo hi : Int32} {p : List Int32} (h1 : c 1 = nI p.length) (h2 : ∀ j (hj : j < p.length), r j = p[j]) (h3 : p.length ≤ 60) (h4 : l 0 = lo) (h5 : l 1 = hi) (h6 : l 4 = 1) (h7 : pu_wf p 0 = some 1) (h8 : m at_ = nI p.length) (h9 : ∀ i (hi : i < p.length), re_op (m (at_ + 1 + i)) (m (at_ + 61 + i)) p[i]) : re_law l c r m at_ lo hi 1 p := by
  refine ⟨⟨h1, h2, h3, h4, h5, h6, Or.inr h7⟩, Or.inr ⟨rfl, h8, ?_, h9⟩⟩
  cases p with
  | nil => cases h7
  | cons x r => exact Nat.succ_pos _
theorem lp_mtx0 {L : Nat} {xs : Nat → Int32} {d ms b : Nat} {Q : am_Q} {Y : am_HI} {k : Nat} (hk : k ≤ 60) (h11 : Y 74 11 = nI k) (kk : Q (some (.int 1)) (am_S b) (am_ur Y 75 (tr_row (Y 75) 141 201 (Y 81) (Y 82) k))) :
    ∀ (m i : Nat), i + m = k → am_wp L xs d 0 ms 162 117 [.ref 74, .int 0, .int 140, .int (nI i)] [] (am_S b) (am_ur Y 75 (tr_row (Y 75) 141 201 (Y 81) (Y 82) i)) Q := by
  intro m
  induction m with
  | zero =>
    intro i hi
    have e9 : i = k := by omega
    rw [e9]
    refine wp_run 2 (pc' := 119) (ls' := [.ref 74, .int 0, .int 140, .int (nI k)]) (st' := [.ref 74, .int (nI k)]) rfl ?_
    refine wp_geti (a := 11) (nI k) h11 rfl rfl rfl ?_
    refine wp_icmp_t rfl (show (nI k) ≤ (nI k) from (nI_leI (a := k) (b := k) (by omega) (by omega)).mpr (by omega)) ?_
    refine wp_run 1 (pc' := 165) (ls' := [.ref 74, .int 0, .int 140, .int (nI k)]) (st' := [.int 1]) rfl ?_
    refine wp_ret rfl ?_
    exact kk
  | succ m ih =>
    intro i hi
    refine wp_run 2 (pc' := 119) (ls' := [.ref 74, .int 0, .int 140, .int (nI i)]) (st' := [.ref 74, .int (nI i)]) rfl ?_
    refine wp_geti (a := 11) (nI k) h11 rfl rfl rfl ?_
    refine wp_icmp_f rfl (show ¬ ((nI k) ≤ (nI i)) from mt (nI_leI (a := k) (b := i) (by omega) (by omega)).mp (by omega)) ?_
    refine wp_run 1 (pc' := 126) (ls' := [.ref 74, .int 0, .int 140, .int (nI i)]) (st' := [.ref 74]) rfl ?_
    refine wp_getr 75 rfl rfl rfl ?_
    refine wp_run 6 (pc' := 135) (ls' := [.ref 74, .int 0, .int 140, .int (nI i)]) (st' := [.ref 74, .int ((140 + 1) + (nI i)), .ref 75]) rfl ?_
    rw [show ((140 + 1) : Int32) = 141 from by decide]
    rw [show ((141 + (nI i)) : Int32) = (nI (141 + i)) from nI_add 141 i]
    refine wp_getr 81 rfl rfl rfl ?_
    refine wp_run 1 (pc' := 139) (ls' := [.ref 74, .int 0, .int 140, .int (nI i)]) (st' := [.int (nI i), .ref 81, .int (nI (141 + i)), .ref 75]) rfl ?_
    refine wp_ald (i := i) (Y 81 i) rfl rfl rfl rfl (by omega) rfl ?_
    refine wp_ast rfl rfl rfl (by omega) rfl ?_
    refine wp_run 1 (pc' := 142) (ls' := [.ref 74, .int 0, .int 140, .int (nI i)]) (st' := [.ref 74]) rfl ?_
    refine wp_getr 75 rfl rfl rfl ?_
    refine wp_run 6 (pc' := 152) (ls' := [.ref 74, .int 0, .int 140, .int (nI i)]) (st' := [.ref 74, .int ((140 + 61) + (nI i)), .ref 75]) rfl ?_
    rw [show ((140 + 61) : Int32) = 201 from by decide]
    rw [show ((201 + (nI i)) : Int32) = (nI (201 + i)) from nI_add 201 i]
    refine wp_getr 82 rfl rfl rfl ?_
    refine wp_run 1 (pc' := 156) (ls' := [.ref 74, .int 0, .int 140, .int (nI i)]) (st' := [.int (nI i), .ref 82, .int (nI (201 + i)), .ref 75]) rfl ?_
    refine wp_ald (i := i) (Y 82 i) rfl rfl rfl rfl (by omega) rfl ?_
    refine wp_ast rfl rfl rfl (by omega) rfl ?_
    refine wp_run 2 (pc' := 117) (ls' := [.ref 74, .int 0, .int 140, .int ((nI i) + 1)]) (st' := []) rfl ?_
    rw [show (((nI i) + 1) : Int32) = (nI (i + 1)) from nI_add i 1]
    rw [am_ur_u, am_ur_u]
    exact ih (i + 1) (by omega)
theorem lp_mtx1 {L : Nat} {xs : Nat → Int32} {d ms b : Nat} {Q : am_Q} {Y : am_HI} {k : Nat} (hk : k ≤ 60) (h11 : Y 74 11 = nI k) (kk : Q (some (.int 1)) (am_S b) (am_ur Y 75 (tr_row (Y 75) 262 322 (Y 81) (Y 82) k))) :
    ∀ (m i : Nat), i + m = k → am_wp L xs d 0 ms 162 117 [.ref 74, .int 1, .int 261, .int (nI i)] [] (am_S b) (am_ur Y 75 (tr_row (Y 75) 262 322 (Y 81) (Y 82) i)) Q := by
  intro m
  induction m with
  | zero =>
    intro i hi
    have e9 : i = k := by omega
    rw [e9]
    refine wp_run 2 (pc' := 119) (ls' := [.ref 74, .int 1, .int 261, .int (nI k)]) (st' := [.ref 74, .int (nI k)]) rfl ?_
    refine wp_geti (a := 11) (nI k) h11 rfl rfl rfl ?_
    refine wp_icmp_t rfl (show (nI k) ≤ (nI k) from (nI_leI (a := k) (b := k) (by omega) (by omega)).mpr (by omega)) ?_
    refine wp_run 1 (pc' := 165) (ls' := [.ref 74, .int 1, .int 261, .int (nI k)]) (st' := [.int 1]) rfl ?_
    refine wp_ret rfl ?_
    exact kk
  | succ m ih =>
    intro i hi
    refine wp_run 2 (pc' := 119) (ls' := [.ref 74, .int 1, .int 261, .int (nI i)]) (st' := [.ref 74, .int (nI i)]) rfl ?_
    refine wp_geti (a := 11) (nI k) h11 rfl rfl rfl ?_
    refine wp_icmp_f rfl (show ¬ ((nI k) ≤ (nI i)) from mt (nI_leI (a := k) (b := i) (by omega) (by omega)).mp (by omega)) ?_
    refine wp_run 1 (pc' := 126) (ls' := [.ref 74, .int 1, .int 261, .int (nI i)]) (st' := [.ref 74]) rfl ?_
    refine wp_getr 75 rfl rfl rfl ?_
    refine wp_run 6 (pc' := 135) (ls' := [.ref 74, .int 1, .int 261, .int (nI i)]) (st' := [.ref 74, .int ((261 + 1) + (nI i)), .ref 75]) rfl ?_
    rw [show ((261 + 1) : Int32) = 262 from by decide]
    rw [show ((262 + (nI i)) : Int32) = (nI (262 + i)) from nI_add 262 i]
    refine wp_getr 81 rfl rfl rfl ?_
    refine wp_run 1 (pc' := 139) (ls' := [.ref 74, .int 1, .int 261, .int (nI i)]) (st' := [.int (nI i), .ref 81, .int (nI (262 + i)), .ref 75]) rfl ?_
    refine wp_ald (i := i) (Y 81 i) rfl rfl rfl rfl (by omega) rfl ?_
    refine wp_ast rfl rfl rfl (by omega) rfl ?_
    refine wp_run 1 (pc' := 142) (ls' := [.ref 74, .int 1, .int 261, .int (nI i)]) (st' := [.ref 74]) rfl ?_
    refine wp_getr 75 rfl rfl rfl ?_
    refine wp_run 6 (pc' := 152) (ls' := [.ref 74, .int 1, .int 261, .int (nI i)]) (st' := [.ref 74, .int ((261 + 61) + (nI i)), .ref 75]) rfl ?_
    rw [show ((261 + 61) : Int32) = 322 from by decide]
    rw [show ((322 + (nI i)) : Int32) = (nI (322 + i)) from nI_add 322 i]
    refine wp_getr 82 rfl rfl rfl ?_
    refine wp_run 1 (pc' := 156) (ls' := [.ref 74, .int 1, .int 261, .int (nI i)]) (st' := [.int (nI i), .ref 82, .int (nI (322 + i)), .ref 75]) rfl ?_
    refine wp_ald (i := i) (Y 82 i) rfl rfl rfl rfl (by omega) rfl ?_
    refine wp_ast rfl rfl rfl (by omega) rfl ?_
    refine wp_run 2 (pc' := 117) (ls' := [.ref 74, .int 1, .int 261, .int ((nI i) + 1)]) (st' := []) rfl ?_
    rw [show (((nI i) + 1) : Int32) = (nI (i + 1)) from nI_add i 1]
    rw [am_ur_u, am_ur_u]
    exact ih (i + 1) (by omega)
theorem op_text {L : Nat} {xs : Nat → Int32} {d ms b N : Nat} {h : am_HI} {Q : am_Q} {x1 : Int32} (hd : 60 ≤ d) (hR : am_Rel N h) (hN : N < 100000)
    (kk : ∀ v b1 h1, (∀ ms2 Q2, (∀ b2 h2, am_Rel (N + 1) h2 → Q2 (some (.int v)) (am_S b2) h2) → am_wp L xs d 0 ms2 162 0 [.ref 74, .int x1, am_du, am_du] [] (am_S b1) h1 Q2) → Q (some (.int v)) (am_S b1) h1) :
    am_wp L xs d 0 ms 48 0 [.ref 0, .int x1, am_du] [] (am_S b) h Q := by
  obtain ⟨⟨n, c, t, tp, wt, s0, s1, p0, p1, H⟩, hI, hE, hS0, hS1, hS2, hS3, hT⟩ := id hR
  have hn := H.1.1
  have hm2 := H.1.2.1
  have hn7 := H.1.2.2
  have hc := H.2.1.1
  have hm3 := H.2.1.2.1
  have hc7 := H.2.1.2.2
  have ht := H.2.2.1.1
  have hm0 := H.2.2.1.2.1
  have ht9 := H.2.2.1.2.2
  have HS := re_hs H
  have HM := re_ms H
  have htp : tp ≤ 60 := H.2.2.2.2.2.2.2.2.1.2.2.1
  refine wp_run 1 (pc' := 1) (ls' := [.ref 0, .int x1, am_du]) (st' := [.int x1]) rfl ?_
  refine wp_callS (as := [.int x1]) (rest := []) (els := [.int x1]) rfl rfl rfl rfl rfl rfl rfl rfl (by omega) ?_
  refine sp_x_isUse (by omega) (pu_two ?_ ?_) ?_
  · skip
    intro ex1
    subst ex1
    show am_wp L xs _ _ _ _ 4 [.ref 0, .int 0, am_du] [.int 1] (am_S b) h _
    refine wp_if_t rfl (show ¬ (1 : Int32) = 0 from by decide) ?_
    refine wp_run 1 (pc' := 14) (ls' := [.ref 0, .int 0, am_du]) (st' := [.ref 0]) rfl ?_
    refine wp_getr 56 rfl rfl rfl ?_
    refine wp_run 1 (pc' := 18) (ls' := [.ref 0, .int 0, am_du]) (st' := [.ref 0, .ref 56]) rfl ?_
    refine wp_getr 1 rfl rfl rfl ?_
    refine wp_getr 9 rfl rfl rfl ?_
    refine wp_run 1 (pc' := 25) (ls' := [.ref 0, .int 0, am_du]) (st' := [.int 0, .ref 9, .ref 56]) rfl ?_
    refine wp_callV (o := 56) (as := [.ref 9, .int 0]) (rest := []) (els := [.ref 56, .ref 9, .int 0, am_du, am_du]) rfl rfl rfl rfl rfl rfl rfl rfl (by omega) ?_
    refine sp_read (u := 0) (tp := tp) (B := h 10) htp H.2.2.2.2.2.2.2.2.1.1 (fun i hi => rfl) (by omega) (by omega) ?_ ?_
    · skip
      intro X2 c2 hrun hoff hq1 hq2 hq3
      show am_wp L xs _ _ _ _ 28 [.ref 0, .int 0, am_du] [.int (-1)] (am_S 10) X2 _
      refine wp_run 2 (pc' := 30) (ls' := [.ref 0, .int 0, .int (-1)]) (st' := [.ref 0]) rfl ?_
      refine wp_getr 1 rfl rfl rfl ?_
      refine wp_getr 9 rfl rfl rfl ?_
      refine wp_run 1 (pc' := 37) (ls' := [.ref 0, .int 0, .int (-1)]) (st' := [.int 0, .ref 9]) rfl ?_
      refine wp_puti rfl rfl ?_
      refine wp_run 2 (pc' := 42) (ls' := [.ref 0, .int 0, .int (-1)]) (st' := [.int (-1), .int (-1)]) rfl ?_
      refine wp_icmp_t rfl (show ((-1) : Int32) = (-1) from by decide) ?_
      refine wp_run 1 (pc' := 51) (ls' := [.ref 0, .int 0, .int (-1)]) (st' := [.ref 0]) rfl ?_
      refine wp_getr 1 rfl rfl rfl ?_
      refine wp_getr 13 rfl rfl rfl ?_
      refine wp_run 1 (pc' := 58) (ls' := [.ref 0, .int 0, .int (-1)]) (st' := [.int 0, .ref 13]) rfl ?_
      refine wp_aald (r := 14) rfl rfl (Or.inl rfl) rfl (by decide) rfl rfl ?_
      refine wp_run 1 (pc' := 60) (ls' := [.ref 0, .int 0, .int (-1)]) (st' := [.ref 0, .ref 14]) rfl ?_
      refine wp_getr 56 rfl rfl rfl ?_
      refine wp_getr 57 rfl rfl rfl ?_
      refine wp_callV (o := 14) (as := [.ref 57]) (rest := []) (els := [.ref 14, .ref 57]) rfl rfl rfl rfl rfl rfl rfl rfl (by omega) ?_
      refine wp_run 1 (pc' := 1) (ls' := [.ref 14, .ref 57]) (st' := [.ref 14]) rfl ?_
      refine wp_getr 15 rfl rfl rfl ?_
      refine wp_run 1 (pc' := 5) (ls' := [.ref 14, .ref 57]) (st' := [.ref 57, .ref 15]) rfl ?_
      refine wp_callV (o := 15) (as := [.ref 57]) (rest := []) (els := [.ref 15, .ref 57, am_du]) rfl rfl rfl rfl rfl rfl rfl rfl (by omega) ?_
      refine sp_icopy (o := 15) (p := 57) (cap := 60) (cap2 := 60) (k := c2.length) rfl rfl rfl rfl rfl rfl rfl rfl (by decide) (by decide) (by decide) hq1 hq3 hq3 (by omega) ?_
      show am_wp L xs _ _ _ _ 8 [.ref 14, .ref 57] [] (am_S 10) (am_cp (am_u X2 9 1 0) 15 57 c2.length) _
      refine wp_run 2 (pc' := 10) (ls' := [.ref 14, .ref 57]) (st' := [.int 1, .ref 14]) rfl ?_
      refine wp_putz rfl (Or.inr rfl) rfl ?_
      refine wp_retv rfl ?_
      show am_wp L xs _ _ _ _ 69 [.ref 0, .int 0, .int (-1)] [] (am_S 10) (am_u (am_cp (am_u X2 9 1 0) 15 57 c2.length) 14 4 1) _
      refine wp_run 1 (pc' := 70) (ls' := [.ref 0, .int 0, .int (-1)]) (st' := [.int 1]) rfl ?_
      refine wp_ret rfl ?_
      refine kk _ _ _ (fun ms2 Q2 kk2 => ?_)
      refine am_gen (fun Z hZ => ?_)
      have hZo : ∀ a, [9, 56, 57, 58, 59, 60, 14, 15, 16].elem a = false → Z a = h a := fun a ha => by
        rw [hZ, am_u_off _ _ _ (am_nel ha rfl), am_cp_off _ _ (am_nel ha rfl) (am_nel ha rfl), am_u_off _ _ _ (am_nel ha rfl)]
        exact hoff a (am_sub ha rfl)
      have hZ75 : Z 75 = h 75 := hZo 75 rfl
      have hZ74 : Z 74 = h 74 := hZo 74 rfl
      have hZ9 : Z 9 = upd (h 9) 1 0 := by
        rw [hZ]
        show upd (X2 9) 1 0 = _
        rw [hoff 9 rfl]
      have hZ0 : Z 14 = upd (h 14) 4 1 := by
        rw [hZ]
        show upd (X2 14) 4 1 = _
        rw [hoff 14 rfl]
      have hZ1 : Z 15 1 = nI c2.length := by
        rw [hZ]
        rfl
      have hZ2 : ∀ j (hj : j < c2.length), Z 16 j = c2[j] := fun j hj => by
        rw [hZ]
        show (if j < c2.length then X2 58 j else _) = _
        rw [if_pos hj]
        exact hq2 j hj
      refine wp_run 3 (pc' := 3) (ls' := [.ref 74, .int 0, am_du, am_du]) (st' := [.int 1, .int 0, .int 0]) rfl ?_
      refine wp_callS (as := [.int 0, .int 0, .int 1]) (rest := []) (els := [.int 0, .int 0, .int 1]) rfl rfl rfl rfl rfl rfl rfl rfl (by omega) ?_
      refine sp_m_in0 (m := 1) rfl rfl (fun _ _ _ => ?_) (fun q => absurd rfl (q 0 (by omega)))
      show am_wp L xs _ _ _ _ 6 [.ref 74, .int 0, am_du, am_du] [.int 1] (am_S 10) Z _
      refine wp_if_t rfl (show ¬ (1 : Int32) = 0 from by decide) ?_
      refine wp_run 2 (pc' := 18) (ls' := [.ref 74, .int 0, am_du, am_du]) (st' := [.int 0, .ref 74]) rfl ?_
      refine wp_puti rfl rfl ?_
      refine wp_run 2 (pc' := 23) (ls' := [.ref 74, .int 0, am_du, am_du]) (st' := [.int 0, .ref 74]) rfl ?_
      refine wp_puti rfl rfl ?_
      refine wp_run 2 (pc' := 28) (ls' := [.ref 74, .int 0, am_du, am_du]) (st' := [.int 0, .ref 74]) rfl ?_
      refine wp_puti rfl rfl ?_
      refine wp_run 2 (pc' := 33) (ls' := [.ref 74, .int 0, am_du, am_du]) (st' := [.int 0, .ref 74]) rfl ?_
      refine wp_puti rfl rfl ?_
      refine wp_run 2 (pc' := 38) (ls' := [.ref 74, .int 0, am_du, am_du]) (st' := [.int 0, .ref 74]) rfl ?_
      refine wp_putz rfl (Or.inl rfl) rfl ?_
      refine wp_run 1 (pc' := 42) (ls' := [.ref 74, .int 0, am_du, am_du]) (st' := [.ref 74]) rfl ?_
      refine wp_callV (o := 74) (as := []) (rest := []) (els := [.ref 74]) rfl rfl rfl rfl rfl rfl rfl rfl (by omega) ?_
      refine (sp_any L xs (h := (am_u (am_u (am_u (am_u (am_u Z 74 15 0) 74 11 0) 74 12 0) 74 13 0) 74 14 0)) (B := h 10) (tp := tp) (u := 0) htp (show Z 75 5 = nI tp from by rw [hZ75]; exact H.2.2.2.2.2.2.2.2.1.2.1) (fun i hi => (show Z 75 (56 + i) = h 10 i from by rw [hZ75]; exact (H.2.2.2.2.2.2.2.2.1.2.2.2 i hi).symm)) (by omega) rfl 5).2 _ _ _ 0 0 [] (am_u (am_u (am_u (am_u (am_u Z 74 15 0) 74 11 0) 74 12 0) 74 13 0) 74 14 0) _ (by omega) rfl ⟨⟨fun _ _ => rfl, fun _ _ _ _ _ => rfl⟩, rfl, rfl, rfl, rfl, Nat.le_refl _, Nat.zero_le _, Nat.zero_le _, fun i hi => absurd hi (Nat.not_lt_zero _)⟩ ?_ ?_
      · skip
        intro Y q2 c3 hY hE hL
        have hq2t := hY.2.2.2.2.2.2.1
        show am_wp L xs _ _ _ _ 45 [.ref 74, .int 0, am_du, am_du] [] (am_S 10) Y _
        refine wp_run 2 (pc' := 47) (ls' := [.ref 74, .int 0, am_du, am_du]) (st' := [.ref 74, .ref 74]) rfl ?_
        refine wp_geti (a := 14) 0 hY.2.2.2.2.1 rfl rfl rfl ?_
        refine wp_if_f rfl (show ¬ (¬ (0 : Int32) = 0) from by decide) ?_
        refine wp_run 1 (pc' := 54) (ls' := [.ref 74, .int 0, am_du, am_du]) (st' := [.ref 74, .ref 74]) rfl ?_
        refine wp_geti (a := 12) (nI q2) hY.2.2.1 rfl rfl rfl ?_
        refine wp_run 1 (pc' := 58) (ls' := [.ref 74, .int 0, am_du, am_du]) (st' := [.ref 74, .int (nI q2), .ref 74]) rfl ?_
        refine wp_getr 75 rfl rfl rfl ?_
        refine wp_run 1 (pc' := 62) (ls' := [.ref 74, .int 0, am_du, am_du]) (st' := [.int 5, .ref 75, .int (nI q2), .ref 74]) rfl ?_
        refine wp_ald (i := 5) (nI tp) (show Y 75 5 = nI tp from by rw [hY.1.1 75 rfl]; exact (show Z 75 5 = nI tp from by rw [hZ75]; exact H.2.2.2.2.2.2.2.2.1.2.1)) rfl rfl rfl (by decide) rfl ?_
        refine wp_icmp rfl (fun (c63 : (nI tp) ≤ (nI q2)) => ?_) (fun (c63 : ¬ ((nI tp) ≤ (nI q2))) => ?_)
        · skip
          have c63n : tp ≤ q2 := (nI_leI (a := tp) (b := q2) (by omega) (by omega)).mp c63
          have ec : c2 = c3 := Sum.inr.inj (hrun.symm.trans ((te_ok hE (by omega)).1 tp (Nat.le_refl _)))
          subst ec
          have hwf := (te_ok hE (by omega)).2
          have hl2 : c2.length ≤ 60 := hq3
          refine wp_run 1 (pc' := 71) (ls' := [.ref 74, .int 0, am_du, am_du]) (st' := [.int 0, .ref 74]) rfl ?_
          refine wp_putz rfl (Or.inl rfl) rfl ?_
          refine wp_run 1 (pc' := 75) (ls' := [.ref 74, .int 0, am_du, am_du]) (st' := [.ref 74]) rfl ?_
          refine wp_getr 75 rfl rfl rfl ?_
          refine wp_run 2 (pc' := 80) (ls' := [.ref 74, .int 0, am_du, am_du]) (st' := [.int 0, .int 5, .ref 75]) rfl ?_
          refine wp_ast rfl rfl rfl (by decide) rfl ?_
          refine wp_run 1 (pc' := 82) (ls' := [.ref 74, .int 0, am_du, am_du]) (st' := [.ref 74]) rfl ?_
          refine wp_geti (a := 14) 0 rfl rfl rfl rfl ?_
          refine wp_if_t rfl (show (0 : Int32) = 0 from by decide) ?_
          refine wp_run 7 (pc' := 106) (ls' := [.ref 74, .int 0, .int (140 + (121 * 0)), am_du]) (st' := [.ref 74]) rfl ?_
          rw [show ((121 * 0) : Int32) = 0 from by decide]
          rw [show ((140 + 0) : Int32) = 140 from by decide]
          refine wp_getr 75 rfl rfl rfl ?_
          refine wp_run 2 (pc' := 111) (ls' := [.ref 74, .int 0, .int 140, am_du]) (st' := [.ref 74, .int 140, .ref 75]) rfl ?_
          refine wp_geti (a := 11) (nI c2.length) hY.2.1 rfl rfl rfl ?_
          refine wp_ast rfl rfl rfl (by decide) rfl ?_
          refine wp_run 2 (pc' := 117) (ls' := [.ref 74, .int 0, .int 140, .int 0]) (st' := []) rfl ?_
          have hp := fun kq => lp_mtx0 (L := L) (xs := xs) (d := d) (ms := ms2) (b := 10) (Q := Q2) (Y := (am_u (am_u (am_u Y 74 14 0) 75 5 0) 75 140 (nI c2.length))) (k := c2.length) hl2 (show Y 74 11 = nI c2.length from hY.2.1) kq c2.length 0 (by omega)
          rw [show tr_row ((am_u (am_u (am_u Y 74 14 0) 75 5 0) 75 140 (nI c2.length)) 75) 141 201 ((am_u (am_u (am_u Y 74 14 0) 75 5 0) 75 140 (nI c2.length)) 81) ((am_u (am_u (am_u Y 74 14 0) 75 5 0) 75 140 (nI c2.length)) 82) 0 = (am_u (am_u (am_u Y 74 14 0) 75 5 0) 75 140 (nI c2.length)) 75 from rfl, ← am_ur_self] at hp
          refine hp ?_
          have hY75 : Y 75 = h 75 := (hY.1.1 75 rfl).trans hZ75
          have hq : ∀ a, [9, 14, 15, 16, 56, 57, 58, 59, 60, 74, 75, 81, 82].elem a = false → (am_ur (am_u (am_u (am_u Y 74 14 0) 75 5 0) 75 140 (nI c2.length)) 75 (tr_row ((am_u (am_u (am_u Y 74 14 0) 75 5 0) 75 140 (nI c2.length)) 75) 141 201 ((am_u (am_u (am_u Y 74 14 0) 75 5 0) 75 140 (nI c2.length)) 81) ((am_u (am_u (am_u Y 74 14 0) 75 5 0) 75 140 (nI c2.length)) 82) c2.length)) a = h a := fun a ha => by
            rw [am_ur_off _ _ (am_nel ha rfl), am_u_off _ _ _ (am_nel ha rfl), am_u_off _ _ _ (am_nel ha rfl), am_u_off _ _ _ (am_nel ha rfl), hY.1.1 a (am_sub ha rfl)]
            show ((am_u (am_u (am_u (am_u (am_u Z 74 15 0) 74 11 0) 74 12 0) 74 13 0) 74 14 0)) a = h a
            rw [am_u_off _ _ _ (am_nel ha rfl), am_u_off _ _ _ (am_nel ha rfl), am_u_off _ _ _ (am_nel ha rfl), am_u_off _ _ _ (am_nel ha rfl), am_u_off _ _ _ (am_nel ha rfl)]
            exact hZo a (am_sub ha rfl)
          have e2 : (am_ur (am_u (am_u (am_u Y 74 14 0) 75 5 0) 75 140 (nI c2.length)) 75 (tr_row ((am_u (am_u (am_u Y 74 14 0) 75 5 0) 75 140 (nI c2.length)) 75) 141 201 ((am_u (am_u (am_u Y 74 14 0) 75 5 0) 75 140 (nI c2.length)) 81) ((am_u (am_u (am_u Y 74 14 0) 75 5 0) 75 140 (nI c2.length)) 82) c2.length)) 74 2 = h 74 2 := ((hY.1.2 2 (by decide) (by decide) (by decide) (by decide)).trans (show Z 74 2 = h 74 2 from by rw [hZ74]))
          have e25 : (am_ur (am_u (am_u (am_u Y 74 14 0) 75 5 0) 75 140 (nI c2.length)) 75 (tr_row ((am_u (am_u (am_u Y 74 14 0) 75 5 0) 75 140 (nI c2.length)) 75) 141 201 ((am_u (am_u (am_u Y 74 14 0) 75 5 0) 75 140 (nI c2.length)) 81) ((am_u (am_u (am_u Y 74 14 0) 75 5 0) 75 140 (nI c2.length)) 82) c2.length)) 74 25 = h 74 25 := ((hY.1.2 25 (by decide) (by decide) (by decide) (by decide)).trans (show Z 74 25 = h 74 25 from by rw [hZ74]))
          have e75 : (am_ur (am_u (am_u (am_u Y 74 14 0) 75 5 0) 75 140 (nI c2.length)) 75 (tr_row ((am_u (am_u (am_u Y 74 14 0) 75 5 0) 75 140 (nI c2.length)) 75) 141 201 ((am_u (am_u (am_u Y 74 14 0) 75 5 0) 75 140 (nI c2.length)) 81) ((am_u (am_u (am_u Y 74 14 0) 75 5 0) 75 140 (nI c2.length)) 82) c2.length)) 75 = (tr_row (upd (upd (h 75) 5 0) 140 (nI c2.length)) 141 201 (Y 81) (Y 82) c2.length) := by
            show tr_row (upd (upd (Y 75) 5 0) 140 (nI c2.length)) 141 201 (Y 81) (Y 82) c2.length = _
            rw [hY75]
          have e9 : (am_ur (am_u (am_u (am_u Y 74 14 0) 75 5 0) 75 140 (nI c2.length)) 75 (tr_row ((am_u (am_u (am_u Y 74 14 0) 75 5 0) 75 140 (nI c2.length)) 75) 141 201 ((am_u (am_u (am_u Y 74 14 0) 75 5 0) 75 140 (nI c2.length)) 81) ((am_u (am_u (am_u Y 74 14 0) 75 5 0) 75 140 (nI c2.length)) 82) c2.length)) 9 = upd (h 9) 1 0 := (hY.1.1 9 rfl).trans hZ9
          have f0 : (am_ur (am_u (am_u (am_u Y 74 14 0) 75 5 0) 75 140 (nI c2.length)) 75 (tr_row ((am_u (am_u (am_u Y 74 14 0) 75 5 0) 75 140 (nI c2.length)) 75) 141 201 ((am_u (am_u (am_u Y 74 14 0) 75 5 0) 75 140 (nI c2.length)) 81) ((am_u (am_u (am_u Y 74 14 0) 75 5 0) 75 140 (nI c2.length)) 82) c2.length)) 14 = upd (h 14) 4 1 := (hY.1.1 14 rfl).trans hZ0
          have f1 : (am_ur (am_u (am_u (am_u Y 74 14 0) 75 5 0) 75 140 (nI c2.length)) 75 (tr_row ((am_u (am_u (am_u Y 74 14 0) 75 5 0) 75 140 (nI c2.length)) 75) 141 201 ((am_u (am_u (am_u Y 74 14 0) 75 5 0) 75 140 (nI c2.length)) 81) ((am_u (am_u (am_u Y 74 14 0) 75 5 0) 75 140 (nI c2.length)) 82) c2.length)) 15 = Z 15 := hY.1.1 15 rfl
          have f2 : (am_ur (am_u (am_u (am_u Y 74 14 0) 75 5 0) 75 140 (nI c2.length)) 75 (tr_row ((am_u (am_u (am_u Y 74 14 0) 75 5 0) 75 140 (nI c2.length)) 75) 141 201 ((am_u (am_u (am_u Y 74 14 0) 75 5 0) 75 140 (nI c2.length)) 81) ((am_u (am_u (am_u Y 74 14 0) 75 5 0) 75 140 (nI c2.length)) 82) c2.length)) 16 = Z 16 := hY.1.1 16 rfl
          have hL1 : Z 15 1 = nI c2.length := hZ1
          have hL2 := hZ2
          have hL4 : upd (h 14) 4 1 0 = h 14 0 := pk_un (by decide)
          have hL5 : upd (h 14) 4 1 1 = h 14 1 := pk_un (by decide)
          have hL6 : upd (h 14) 4 1 4 = 1 := pk_us
          replace hL4 := hL4.trans H.2.2.2.2.2.2.2.2.2.2.1.1.2.2.2.1
          replace hL5 := hL5.trans H.2.2.2.2.2.2.2.2.2.2.1.1.2.2.2.2.1
          have hH : ∃ n c t tp wt s0 s1 p0 p1, re_H (am_ur (am_u (am_u (am_u Y 74 14 0) 75 5 0) 75 140 (nI c2.length)) 75 (tr_row ((am_u (am_u (am_u Y 74 14 0) 75 5 0) 75 140 (nI c2.length)) 75) 141 201 ((am_u (am_u (am_u Y 74 14 0) 75 5 0) 75 140 (nI c2.length)) 81) ((am_u (am_u (am_u Y 74 14 0) 75 5 0) 75 140 (nI c2.length)) 82) c2.length)) n c t tp wt s0 s1 p0 p1 := by
            refine ⟨n, c, t, 0, wt, 1, s1, c2, p1, ?_⟩
            unfold re_H
            rw [hq 1 rfl, hq 2 rfl, hq 3 rfl, hq 4 rfl, hq 5 rfl, hq 6 rfl, hq 7 rfl, hq 8 rfl, hq 10 rfl, hq 11 rfl, hq 12 rfl, hq 19 rfl, hq 20 rfl, hq 21 rfl, e9, e75, f0, f1, f2]
            exact re_txG H ((tr_off c2.length (by omega) (by omega)).trans ((pk_un (by omega)).trans pk_us)) (fun j h1 h2 => (tr_off c2.length (by omega) (by omega)).trans ((pk_un (by omega)).trans (pk_un h1))) (re_law_n hL1 hL2 hl2 hL4 hL5 hL6 hwf ((tr_off c2.length (by omega) (by omega)).trans pk_us) (fun i hi => by rw [show tr_row (upd (upd (h 75) 5 0) 140 (nI c2.length)) 141 201 (Y 81) (Y 82) c2.length (140 + 1 + i) = Y 81 i from tr_a (by decide) c2.length hl2 hi, show tr_row (upd (upd (h 75) 5 0) 140 (nI c2.length)) 141 201 (Y 81) (Y 82) c2.length (140 + 61 + i) = Y 82 i from tr_w (by decide) c2.length hl2 hi]; exact hY.2.2.2.2.2.2.2.2 i hi)) (re_law_m H.2.2.2.2.2.2.2.2.2.2.2 (fun i h1 h2 => (tr_off c2.length (by omega) (by omega)).trans ((pk_un (by omega)).trans (pk_un (by omega)))))
          exact kk2 _ _ (re_keep74 hR (fun a ha => hq a (am_sub ha rfl)) e2 e25 hH)
        · skip
          have c63n : ¬ (tp ≤ q2) := fun q => c63 ((nI_leI (a := tp) (b := q2) (by omega) (by omega)).mpr q)
          exact absurd (hrun.symm.trans (te_no hE (by omega) tp (Nat.le_refl _))) (fun e => by cases e)
      · skip
        intro Y q2 hY hF
        exact absurd (hrun.symm.trans (hF [] rfl (by decide) (by decide) tp (Nat.le_refl _))) (fun e => by cases e)
    · skip
      intro X2 p2 hrun hoff hp2
      show am_wp L xs _ _ _ _ 28 [.ref 0, .int 0, am_du] [.int (nI p2)] (am_S 10) X2 _
      refine wp_run 2 (pc' := 30) (ls' := [.ref 0, .int 0, .int (nI p2)]) (st' := [.ref 0]) rfl ?_
      refine wp_getr 1 rfl rfl rfl ?_
      refine wp_getr 9 rfl rfl rfl ?_
      refine wp_run 1 (pc' := 37) (ls' := [.ref 0, .int 0, .int (nI p2)]) (st' := [.int 0, .ref 9]) rfl ?_
      refine wp_puti rfl rfl ?_
      refine wp_run 2 (pc' := 42) (ls' := [.ref 0, .int 0, .int (nI p2)]) (st' := [.int (-1), .int (nI p2)]) rfl ?_
      refine wp_icmp_f rfl (show ¬ ((nI p2) = (-1)) from pu_ne1 (by omega)) ?_
      refine wp_run 3 (pc' := 49) (ls' := [.ref 0, .int 0, .int (nI p2)]) (st' := [.int ((-10) - (nI p2))]) rfl ?_
      refine wp_ret rfl ?_
      refine kk _ _ _ (fun ms2 Q2 kk2 => ?_)
      refine am_gen (fun Z hZ => ?_)
      have hZo : ∀ a, [9, 56, 57, 58, 59, 60].elem a = false → Z a = h a := fun a ha => by
        rw [hZ, am_u_off _ _ _ (am_nel ha rfl)]
        exact hoff a (am_sub ha rfl)
      have hZ75 : Z 75 = h 75 := hZo 75 rfl
      have hZ74 : Z 74 = h 74 := hZo 74 rfl
      have hZ9 : Z 9 = upd (h 9) 1 0 := by
        rw [hZ]
        show upd (X2 9) 1 0 = _
        rw [hoff 9 rfl]
      refine wp_run 3 (pc' := 3) (ls' := [.ref 74, .int 0, am_du, am_du]) (st' := [.int 1, .int 0, .int 0]) rfl ?_
      refine wp_callS (as := [.int 0, .int 0, .int 1]) (rest := []) (els := [.int 0, .int 0, .int 1]) rfl rfl rfl rfl rfl rfl rfl rfl (by omega) ?_
      refine sp_m_in0 (m := 1) rfl rfl (fun _ _ _ => ?_) (fun q => absurd rfl (q 0 (by omega)))
      show am_wp L xs _ _ _ _ 6 [.ref 74, .int 0, am_du, am_du] [.int 1] (am_S 10) Z _
      refine wp_if_t rfl (show ¬ (1 : Int32) = 0 from by decide) ?_
      refine wp_run 2 (pc' := 18) (ls' := [.ref 74, .int 0, am_du, am_du]) (st' := [.int 0, .ref 74]) rfl ?_
      refine wp_puti rfl rfl ?_
      refine wp_run 2 (pc' := 23) (ls' := [.ref 74, .int 0, am_du, am_du]) (st' := [.int 0, .ref 74]) rfl ?_
      refine wp_puti rfl rfl ?_
      refine wp_run 2 (pc' := 28) (ls' := [.ref 74, .int 0, am_du, am_du]) (st' := [.int 0, .ref 74]) rfl ?_
      refine wp_puti rfl rfl ?_
      refine wp_run 2 (pc' := 33) (ls' := [.ref 74, .int 0, am_du, am_du]) (st' := [.int 0, .ref 74]) rfl ?_
      refine wp_puti rfl rfl ?_
      refine wp_run 2 (pc' := 38) (ls' := [.ref 74, .int 0, am_du, am_du]) (st' := [.int 0, .ref 74]) rfl ?_
      refine wp_putz rfl (Or.inl rfl) rfl ?_
      refine wp_run 1 (pc' := 42) (ls' := [.ref 74, .int 0, am_du, am_du]) (st' := [.ref 74]) rfl ?_
      refine wp_callV (o := 74) (as := []) (rest := []) (els := [.ref 74]) rfl rfl rfl rfl rfl rfl rfl rfl (by omega) ?_
      refine (sp_any L xs (h := (am_u (am_u (am_u (am_u (am_u Z 74 15 0) 74 11 0) 74 12 0) 74 13 0) 74 14 0)) (B := h 10) (tp := tp) (u := 0) htp (show Z 75 5 = nI tp from by rw [hZ75]; exact H.2.2.2.2.2.2.2.2.1.2.1) (fun i hi => (show Z 75 (56 + i) = h 10 i from by rw [hZ75]; exact (H.2.2.2.2.2.2.2.2.1.2.2.2 i hi).symm)) (by omega) rfl 5).2 _ _ _ 0 0 [] (am_u (am_u (am_u (am_u (am_u Z 74 15 0) 74 11 0) 74 12 0) 74 13 0) 74 14 0) _ (by omega) rfl ⟨⟨fun _ _ => rfl, fun _ _ _ _ _ => rfl⟩, rfl, rfl, rfl, rfl, Nat.le_refl _, Nat.zero_le _, Nat.zero_le _, fun i hi => absurd hi (Nat.not_lt_zero _)⟩ ?_ ?_
      · skip
        intro Y q2 c3 hY hE hL
        have hq2t := hY.2.2.2.2.2.2.1
        show am_wp L xs _ _ _ _ 45 [.ref 74, .int 0, am_du, am_du] [] (am_S 10) Y _
        refine wp_run 2 (pc' := 47) (ls' := [.ref 74, .int 0, am_du, am_du]) (st' := [.ref 74, .ref 74]) rfl ?_
        refine wp_geti (a := 14) 0 hY.2.2.2.2.1 rfl rfl rfl ?_
        refine wp_if_f rfl (show ¬ (¬ (0 : Int32) = 0) from by decide) ?_
        refine wp_run 1 (pc' := 54) (ls' := [.ref 74, .int 0, am_du, am_du]) (st' := [.ref 74, .ref 74]) rfl ?_
        refine wp_geti (a := 12) (nI q2) hY.2.2.1 rfl rfl rfl ?_
        refine wp_run 1 (pc' := 58) (ls' := [.ref 74, .int 0, am_du, am_du]) (st' := [.ref 74, .int (nI q2), .ref 74]) rfl ?_
        refine wp_getr 75 rfl rfl rfl ?_
        refine wp_run 1 (pc' := 62) (ls' := [.ref 74, .int 0, am_du, am_du]) (st' := [.int 5, .ref 75, .int (nI q2), .ref 74]) rfl ?_
        refine wp_ald (i := 5) (nI tp) (show Y 75 5 = nI tp from by rw [hY.1.1 75 rfl]; exact (show Z 75 5 = nI tp from by rw [hZ75]; exact H.2.2.2.2.2.2.2.2.1.2.1)) rfl rfl rfl (by decide) rfl ?_
        refine wp_icmp rfl (fun (c63 : (nI tp) ≤ (nI q2)) => ?_) (fun (c63 : ¬ ((nI tp) ≤ (nI q2))) => ?_)
        · skip
          have c63n : tp ≤ q2 := (nI_leI (a := tp) (b := q2) (by omega) (by omega)).mp c63
          exact absurd (hrun.symm.trans ((te_ok hE (by omega)).1 tp (Nat.le_refl _))) (fun e => by cases e)
        · skip
          have c63n : ¬ (tp ≤ q2) := fun q => c63 ((nI_leI (a := tp) (b := q2) (by omega) (by omega)).mpr q)
          have eq2 : p2 = q2 := Sum.inl.inj (hrun.symm.trans (te_no hE (by omega) tp (Nat.le_refl _)))
          subst eq2
          refine wp_run 2 (pc' := 71) (ls' := [.ref 74, .int 0, am_du, am_du]) (st' := [.int 1, .ref 74]) rfl ?_
          refine wp_putz rfl (Or.inr rfl) rfl ?_
          refine wp_run 1 (pc' := 75) (ls' := [.ref 74, .int 0, am_du, am_du]) (st' := [.ref 74]) rfl ?_
          refine wp_getr 75 rfl rfl rfl ?_
          refine wp_run 2 (pc' := 80) (ls' := [.ref 74, .int 0, am_du, am_du]) (st' := [.int 0, .int 5, .ref 75]) rfl ?_
          refine wp_ast rfl rfl rfl (by decide) rfl ?_
          refine wp_run 1 (pc' := 82) (ls' := [.ref 74, .int 0, am_du, am_du]) (st' := [.ref 74]) rfl ?_
          refine wp_geti (a := 14) 1 rfl rfl rfl rfl ?_
          refine wp_if_f rfl (show ¬ ((1 : Int32) = 0) from by decide) ?_
          refine wp_run 2 (pc' := 91) (ls' := [.ref 74, .int 0, am_du, am_du]) (st' := [.ref 74, .int (-10)]) rfl ?_
          refine wp_geti (a := 12) (nI p2) hY.2.2.1 rfl rfl rfl ?_
          refine wp_run 1 (pc' := 95) (ls' := [.ref 74, .int 0, am_du, am_du]) (st' := [.int ((-10) - (nI p2))]) rfl ?_
          refine wp_ret rfl ?_
          have hY75 : Y 75 = h 75 := (hY.1.1 75 rfl).trans hZ75
          have hq : ∀ a, [9, 56, 57, 58, 59, 60, 74, 75, 81, 82].elem a = false → (am_u (am_u Y 74 14 1) 75 5 0) a = h a := fun a ha => by
            rw [am_u_off _ _ _ (am_nel ha rfl), am_u_off _ _ _ (am_nel ha rfl), hY.1.1 a (am_sub ha rfl)]
            show ((am_u (am_u (am_u (am_u (am_u Z 74 15 0) 74 11 0) 74 12 0) 74 13 0) 74 14 0)) a = h a
            rw [am_u_off _ _ _ (am_nel ha rfl), am_u_off _ _ _ (am_nel ha rfl), am_u_off _ _ _ (am_nel ha rfl), am_u_off _ _ _ (am_nel ha rfl), am_u_off _ _ _ (am_nel ha rfl)]
            exact hZo a (am_sub ha rfl)
          have e2 : (am_u (am_u Y 74 14 1) 75 5 0) 74 2 = h 74 2 := ((hY.1.2 2 (by decide) (by decide) (by decide) (by decide)).trans (show Z 74 2 = h 74 2 from by rw [hZ74]))
          have e25 : (am_u (am_u Y 74 14 1) 75 5 0) 74 25 = h 74 25 := ((hY.1.2 25 (by decide) (by decide) (by decide) (by decide)).trans (show Z 74 25 = h 74 25 from by rw [hZ74]))
          have e75 : (am_u (am_u Y 74 14 1) 75 5 0) 75 = (upd (h 75) 5 0) := by
            show upd (Y 75) 5 0 = _
            rw [hY75]
          have e9 : (am_u (am_u Y 74 14 1) 75 5 0) 9 = upd (h 9) 1 0 := (hY.1.1 9 rfl).trans hZ9
          have hH : ∃ n c t tp wt s0 s1 p0 p1, re_H (am_u (am_u Y 74 14 1) 75 5 0) n c t tp wt s0 s1 p0 p1 := by
            refine ⟨n, c, t, 0, wt, s0, s1, p0, p1, ?_⟩
            unfold re_H
            rw [hq 1 rfl, hq 2 rfl, hq 3 rfl, hq 4 rfl, hq 5 rfl, hq 6 rfl, hq 7 rfl, hq 8 rfl, hq 10 rfl, hq 11 rfl, hq 12 rfl, hq 14 rfl, hq 15 rfl, hq 16 rfl, hq 19 rfl, hq 20 rfl, hq 21 rfl, e9, e75]
            exact re_txG H pk_us (fun j h1 h2 => pk_un h1) (re_law_m H.2.2.2.2.2.2.2.2.2.2.1 (fun i h1 h2 => pk_un (by omega))) (re_law_m H.2.2.2.2.2.2.2.2.2.2.2 (fun i h1 h2 => pk_un (by omega)))
          exact kk2 _ _ (re_keep74 hR (fun a ha => hq a (am_sub ha rfl)) e2 e25 hH)
      · skip
        intro Y q2 hY hF
        have eq2 : p2 = q2 := Sum.inl.inj (hrun.symm.trans (hF [] rfl (by decide) (by decide) tp (Nat.le_refl _)))
        subst eq2
        show am_wp L xs _ _ _ _ 45 [.ref 74, .int 0, am_du, am_du] [] (am_S 10) Y _
        refine wp_run 2 (pc' := 47) (ls' := [.ref 74, .int 0, am_du, am_du]) (st' := [.ref 74, .ref 74]) rfl ?_
        refine wp_geti (a := 14) 1 hY.2.2.2.2.1 rfl rfl rfl ?_
        refine wp_if_t rfl (show ¬ (1 : Int32) = 0 from by decide) ?_
        refine wp_run 2 (pc' := 71) (ls' := [.ref 74, .int 0, am_du, am_du]) (st' := [.int 1, .ref 74]) rfl ?_
        refine wp_putz rfl (Or.inr rfl) rfl ?_
        refine wp_run 1 (pc' := 75) (ls' := [.ref 74, .int 0, am_du, am_du]) (st' := [.ref 74]) rfl ?_
        refine wp_getr 75 rfl rfl rfl ?_
        refine wp_run 2 (pc' := 80) (ls' := [.ref 74, .int 0, am_du, am_du]) (st' := [.int 0, .int 5, .ref 75]) rfl ?_
        refine wp_ast rfl rfl rfl (by decide) rfl ?_
        refine wp_run 1 (pc' := 82) (ls' := [.ref 74, .int 0, am_du, am_du]) (st' := [.ref 74]) rfl ?_
        refine wp_geti (a := 14) 1 rfl rfl rfl rfl ?_
        refine wp_if_f rfl (show ¬ ((1 : Int32) = 0) from by decide) ?_
        refine wp_run 2 (pc' := 91) (ls' := [.ref 74, .int 0, am_du, am_du]) (st' := [.ref 74, .int (-10)]) rfl ?_
        refine wp_geti (a := 12) (nI p2) hY.2.2.1 rfl rfl rfl ?_
        refine wp_run 1 (pc' := 95) (ls' := [.ref 74, .int 0, am_du, am_du]) (st' := [.int ((-10) - (nI p2))]) rfl ?_
        refine wp_ret rfl ?_
        have hY75 : Y 75 = h 75 := (hY.1.1 75 rfl).trans hZ75
        have hq : ∀ a, [9, 56, 57, 58, 59, 60, 74, 75, 81, 82].elem a = false → (am_u (am_u Y 74 14 1) 75 5 0) a = h a := fun a ha => by
          rw [am_u_off _ _ _ (am_nel ha rfl), am_u_off _ _ _ (am_nel ha rfl), hY.1.1 a (am_sub ha rfl)]
          show ((am_u (am_u (am_u (am_u (am_u Z 74 15 0) 74 11 0) 74 12 0) 74 13 0) 74 14 0)) a = h a
          rw [am_u_off _ _ _ (am_nel ha rfl), am_u_off _ _ _ (am_nel ha rfl), am_u_off _ _ _ (am_nel ha rfl), am_u_off _ _ _ (am_nel ha rfl), am_u_off _ _ _ (am_nel ha rfl)]
          exact hZo a (am_sub ha rfl)
        have e2 : (am_u (am_u Y 74 14 1) 75 5 0) 74 2 = h 74 2 := ((hY.1.2 2 (by decide) (by decide) (by decide) (by decide)).trans (show Z 74 2 = h 74 2 from by rw [hZ74]))
        have e25 : (am_u (am_u Y 74 14 1) 75 5 0) 74 25 = h 74 25 := ((hY.1.2 25 (by decide) (by decide) (by decide) (by decide)).trans (show Z 74 25 = h 74 25 from by rw [hZ74]))
        have e75 : (am_u (am_u Y 74 14 1) 75 5 0) 75 = (upd (h 75) 5 0) := by
          show upd (Y 75) 5 0 = _
          rw [hY75]
        have e9 : (am_u (am_u Y 74 14 1) 75 5 0) 9 = upd (h 9) 1 0 := (hY.1.1 9 rfl).trans hZ9
        have hH : ∃ n c t tp wt s0 s1 p0 p1, re_H (am_u (am_u Y 74 14 1) 75 5 0) n c t tp wt s0 s1 p0 p1 := by
          refine ⟨n, c, t, 0, wt, s0, s1, p0, p1, ?_⟩
          unfold re_H
          rw [hq 1 rfl, hq 2 rfl, hq 3 rfl, hq 4 rfl, hq 5 rfl, hq 6 rfl, hq 7 rfl, hq 8 rfl, hq 10 rfl, hq 11 rfl, hq 12 rfl, hq 14 rfl, hq 15 rfl, hq 16 rfl, hq 19 rfl, hq 20 rfl, hq 21 rfl, e9, e75]
          exact re_txG H pk_us (fun j h1 h2 => pk_un h1) (re_law_m H.2.2.2.2.2.2.2.2.2.2.1 (fun i h1 h2 => pk_un (by omega))) (re_law_m H.2.2.2.2.2.2.2.2.2.2.2 (fun i h1 h2 => pk_un (by omega)))
        exact kk2 _ _ (re_keep74 hR (fun a ha => hq a (am_sub ha rfl)) e2 e25 hH)
  · skip
    intro ex1
    subst ex1
    show am_wp L xs _ _ _ _ 4 [.ref 0, .int 1, am_du] [.int 1] (am_S b) h _
    refine wp_if_t rfl (show ¬ (1 : Int32) = 0 from by decide) ?_
    refine wp_run 1 (pc' := 14) (ls' := [.ref 0, .int 1, am_du]) (st' := [.ref 0]) rfl ?_
    refine wp_getr 56 rfl rfl rfl ?_
    refine wp_run 1 (pc' := 18) (ls' := [.ref 0, .int 1, am_du]) (st' := [.ref 0, .ref 56]) rfl ?_
    refine wp_getr 1 rfl rfl rfl ?_
    refine wp_getr 9 rfl rfl rfl ?_
    refine wp_run 1 (pc' := 25) (ls' := [.ref 0, .int 1, am_du]) (st' := [.int 1, .ref 9, .ref 56]) rfl ?_
    refine wp_callV (o := 56) (as := [.ref 9, .int 1]) (rest := []) (els := [.ref 56, .ref 9, .int 1, am_du, am_du]) rfl rfl rfl rfl rfl rfl rfl rfl (by omega) ?_
    refine sp_read (u := 1) (tp := tp) (B := h 10) htp H.2.2.2.2.2.2.2.2.1.1 (fun i hi => rfl) (by omega) (by omega) ?_ ?_
    · skip
      intro X2 c2 hrun hoff hq1 hq2 hq3
      show am_wp L xs _ _ _ _ 28 [.ref 0, .int 1, am_du] [.int (-1)] (am_S 10) X2 _
      refine wp_run 2 (pc' := 30) (ls' := [.ref 0, .int 1, .int (-1)]) (st' := [.ref 0]) rfl ?_
      refine wp_getr 1 rfl rfl rfl ?_
      refine wp_getr 9 rfl rfl rfl ?_
      refine wp_run 1 (pc' := 37) (ls' := [.ref 0, .int 1, .int (-1)]) (st' := [.int 0, .ref 9]) rfl ?_
      refine wp_puti rfl rfl ?_
      refine wp_run 2 (pc' := 42) (ls' := [.ref 0, .int 1, .int (-1)]) (st' := [.int (-1), .int (-1)]) rfl ?_
      refine wp_icmp_t rfl (show ((-1) : Int32) = (-1) from by decide) ?_
      refine wp_run 1 (pc' := 51) (ls' := [.ref 0, .int 1, .int (-1)]) (st' := [.ref 0]) rfl ?_
      refine wp_getr 1 rfl rfl rfl ?_
      refine wp_getr 13 rfl rfl rfl ?_
      refine wp_run 1 (pc' := 58) (ls' := [.ref 0, .int 1, .int (-1)]) (st' := [.int 1, .ref 13]) rfl ?_
      refine wp_aald (r := 19) rfl rfl (Or.inl rfl) rfl (by decide) rfl rfl ?_
      refine wp_run 1 (pc' := 60) (ls' := [.ref 0, .int 1, .int (-1)]) (st' := [.ref 0, .ref 19]) rfl ?_
      refine wp_getr 56 rfl rfl rfl ?_
      refine wp_getr 57 rfl rfl rfl ?_
      refine wp_callV (o := 19) (as := [.ref 57]) (rest := []) (els := [.ref 19, .ref 57]) rfl rfl rfl rfl rfl rfl rfl rfl (by omega) ?_
      refine wp_run 1 (pc' := 1) (ls' := [.ref 19, .ref 57]) (st' := [.ref 19]) rfl ?_
      refine wp_getr 20 rfl rfl rfl ?_
      refine wp_run 1 (pc' := 5) (ls' := [.ref 19, .ref 57]) (st' := [.ref 57, .ref 20]) rfl ?_
      refine wp_callV (o := 20) (as := [.ref 57]) (rest := []) (els := [.ref 20, .ref 57, am_du]) rfl rfl rfl rfl rfl rfl rfl rfl (by omega) ?_
      refine sp_icopy (o := 20) (p := 57) (cap := 60) (cap2 := 60) (k := c2.length) rfl rfl rfl rfl rfl rfl rfl rfl (by decide) (by decide) (by decide) hq1 hq3 hq3 (by omega) ?_
      show am_wp L xs _ _ _ _ 8 [.ref 19, .ref 57] [] (am_S 10) (am_cp (am_u X2 9 1 0) 20 57 c2.length) _
      refine wp_run 2 (pc' := 10) (ls' := [.ref 19, .ref 57]) (st' := [.int 1, .ref 19]) rfl ?_
      refine wp_putz rfl (Or.inr rfl) rfl ?_
      refine wp_retv rfl ?_
      show am_wp L xs _ _ _ _ 69 [.ref 0, .int 1, .int (-1)] [] (am_S 10) (am_u (am_cp (am_u X2 9 1 0) 20 57 c2.length) 19 4 1) _
      refine wp_run 1 (pc' := 70) (ls' := [.ref 0, .int 1, .int (-1)]) (st' := [.int 1]) rfl ?_
      refine wp_ret rfl ?_
      refine kk _ _ _ (fun ms2 Q2 kk2 => ?_)
      refine am_gen (fun Z hZ => ?_)
      have hZo : ∀ a, [9, 56, 57, 58, 59, 60, 19, 20, 21].elem a = false → Z a = h a := fun a ha => by
        rw [hZ, am_u_off _ _ _ (am_nel ha rfl), am_cp_off _ _ (am_nel ha rfl) (am_nel ha rfl), am_u_off _ _ _ (am_nel ha rfl)]
        exact hoff a (am_sub ha rfl)
      have hZ75 : Z 75 = h 75 := hZo 75 rfl
      have hZ74 : Z 74 = h 74 := hZo 74 rfl
      have hZ9 : Z 9 = upd (h 9) 1 0 := by
        rw [hZ]
        show upd (X2 9) 1 0 = _
        rw [hoff 9 rfl]
      have hZ0 : Z 19 = upd (h 19) 4 1 := by
        rw [hZ]
        show upd (X2 19) 4 1 = _
        rw [hoff 19 rfl]
      have hZ1 : Z 20 1 = nI c2.length := by
        rw [hZ]
        rfl
      have hZ2 : ∀ j (hj : j < c2.length), Z 21 j = c2[j] := fun j hj => by
        rw [hZ]
        show (if j < c2.length then X2 58 j else _) = _
        rw [if_pos hj]
        exact hq2 j hj
      refine wp_run 3 (pc' := 3) (ls' := [.ref 74, .int 1, am_du, am_du]) (st' := [.int 1, .int 0, .int 1]) rfl ?_
      refine wp_callS (as := [.int 1, .int 0, .int 1]) (rest := []) (els := [.int 1, .int 0, .int 1]) rfl rfl rfl rfl rfl rfl rfl rfl (by omega) ?_
      refine sp_m_in0 (m := 1) rfl rfl (fun _ _ _ => ?_) (fun q => absurd rfl (q 1 (by omega)))
      show am_wp L xs _ _ _ _ 6 [.ref 74, .int 1, am_du, am_du] [.int 1] (am_S 10) Z _
      refine wp_if_t rfl (show ¬ (1 : Int32) = 0 from by decide) ?_
      refine wp_run 2 (pc' := 18) (ls' := [.ref 74, .int 1, am_du, am_du]) (st' := [.int 1, .ref 74]) rfl ?_
      refine wp_puti rfl rfl ?_
      refine wp_run 2 (pc' := 23) (ls' := [.ref 74, .int 1, am_du, am_du]) (st' := [.int 0, .ref 74]) rfl ?_
      refine wp_puti rfl rfl ?_
      refine wp_run 2 (pc' := 28) (ls' := [.ref 74, .int 1, am_du, am_du]) (st' := [.int 0, .ref 74]) rfl ?_
      refine wp_puti rfl rfl ?_
      refine wp_run 2 (pc' := 33) (ls' := [.ref 74, .int 1, am_du, am_du]) (st' := [.int 0, .ref 74]) rfl ?_
      refine wp_puti rfl rfl ?_
      refine wp_run 2 (pc' := 38) (ls' := [.ref 74, .int 1, am_du, am_du]) (st' := [.int 0, .ref 74]) rfl ?_
      refine wp_putz rfl (Or.inl rfl) rfl ?_
      refine wp_run 1 (pc' := 42) (ls' := [.ref 74, .int 1, am_du, am_du]) (st' := [.ref 74]) rfl ?_
      refine wp_callV (o := 74) (as := []) (rest := []) (els := [.ref 74]) rfl rfl rfl rfl rfl rfl rfl rfl (by omega) ?_
      refine (sp_any L xs (h := (am_u (am_u (am_u (am_u (am_u Z 74 15 1) 74 11 0) 74 12 0) 74 13 0) 74 14 0)) (B := h 10) (tp := tp) (u := 1) htp (show Z 75 5 = nI tp from by rw [hZ75]; exact H.2.2.2.2.2.2.2.2.1.2.1) (fun i hi => (show Z 75 (56 + i) = h 10 i from by rw [hZ75]; exact (H.2.2.2.2.2.2.2.2.1.2.2.2 i hi).symm)) (by omega) rfl 5).2 _ _ _ 0 0 [] (am_u (am_u (am_u (am_u (am_u Z 74 15 1) 74 11 0) 74 12 0) 74 13 0) 74 14 0) _ (by omega) rfl ⟨⟨fun _ _ => rfl, fun _ _ _ _ _ => rfl⟩, rfl, rfl, rfl, rfl, Nat.le_refl _, Nat.zero_le _, Nat.zero_le _, fun i hi => absurd hi (Nat.not_lt_zero _)⟩ ?_ ?_
      · skip
        intro Y q2 c3 hY hE hL
        have hq2t := hY.2.2.2.2.2.2.1
        show am_wp L xs _ _ _ _ 45 [.ref 74, .int 1, am_du, am_du] [] (am_S 10) Y _
        refine wp_run 2 (pc' := 47) (ls' := [.ref 74, .int 1, am_du, am_du]) (st' := [.ref 74, .ref 74]) rfl ?_
        refine wp_geti (a := 14) 0 hY.2.2.2.2.1 rfl rfl rfl ?_
        refine wp_if_f rfl (show ¬ (¬ (0 : Int32) = 0) from by decide) ?_
        refine wp_run 1 (pc' := 54) (ls' := [.ref 74, .int 1, am_du, am_du]) (st' := [.ref 74, .ref 74]) rfl ?_
        refine wp_geti (a := 12) (nI q2) hY.2.2.1 rfl rfl rfl ?_
        refine wp_run 1 (pc' := 58) (ls' := [.ref 74, .int 1, am_du, am_du]) (st' := [.ref 74, .int (nI q2), .ref 74]) rfl ?_
        refine wp_getr 75 rfl rfl rfl ?_
        refine wp_run 1 (pc' := 62) (ls' := [.ref 74, .int 1, am_du, am_du]) (st' := [.int 5, .ref 75, .int (nI q2), .ref 74]) rfl ?_
        refine wp_ald (i := 5) (nI tp) (show Y 75 5 = nI tp from by rw [hY.1.1 75 rfl]; exact (show Z 75 5 = nI tp from by rw [hZ75]; exact H.2.2.2.2.2.2.2.2.1.2.1)) rfl rfl rfl (by decide) rfl ?_
        refine wp_icmp rfl (fun (c63 : (nI tp) ≤ (nI q2)) => ?_) (fun (c63 : ¬ ((nI tp) ≤ (nI q2))) => ?_)
        · skip
          have c63n : tp ≤ q2 := (nI_leI (a := tp) (b := q2) (by omega) (by omega)).mp c63
          have ec : c2 = c3 := Sum.inr.inj (hrun.symm.trans ((te_ok hE (by omega)).1 tp (Nat.le_refl _)))
          subst ec
          have hwf := (te_ok hE (by omega)).2
          have hl2 : c2.length ≤ 60 := hq3
          refine wp_run 1 (pc' := 71) (ls' := [.ref 74, .int 1, am_du, am_du]) (st' := [.int 0, .ref 74]) rfl ?_
          refine wp_putz rfl (Or.inl rfl) rfl ?_
          refine wp_run 1 (pc' := 75) (ls' := [.ref 74, .int 1, am_du, am_du]) (st' := [.ref 74]) rfl ?_
          refine wp_getr 75 rfl rfl rfl ?_
          refine wp_run 2 (pc' := 80) (ls' := [.ref 74, .int 1, am_du, am_du]) (st' := [.int 0, .int 5, .ref 75]) rfl ?_
          refine wp_ast rfl rfl rfl (by decide) rfl ?_
          refine wp_run 1 (pc' := 82) (ls' := [.ref 74, .int 1, am_du, am_du]) (st' := [.ref 74]) rfl ?_
          refine wp_geti (a := 14) 0 rfl rfl rfl rfl ?_
          refine wp_if_t rfl (show (0 : Int32) = 0 from by decide) ?_
          refine wp_run 7 (pc' := 106) (ls' := [.ref 74, .int 1, .int (140 + (121 * 1)), am_du]) (st' := [.ref 74]) rfl ?_
          rw [show ((121 * 1) : Int32) = 121 from by decide]
          rw [show ((140 + 121) : Int32) = 261 from by decide]
          refine wp_getr 75 rfl rfl rfl ?_
          refine wp_run 2 (pc' := 111) (ls' := [.ref 74, .int 1, .int 261, am_du]) (st' := [.ref 74, .int 261, .ref 75]) rfl ?_
          refine wp_geti (a := 11) (nI c2.length) hY.2.1 rfl rfl rfl ?_
          refine wp_ast rfl rfl rfl (by decide) rfl ?_
          refine wp_run 2 (pc' := 117) (ls' := [.ref 74, .int 1, .int 261, .int 0]) (st' := []) rfl ?_
          have hp := fun kq => lp_mtx1 (L := L) (xs := xs) (d := d) (ms := ms2) (b := 10) (Q := Q2) (Y := (am_u (am_u (am_u Y 74 14 0) 75 5 0) 75 261 (nI c2.length))) (k := c2.length) hl2 (show Y 74 11 = nI c2.length from hY.2.1) kq c2.length 0 (by omega)
          rw [show tr_row ((am_u (am_u (am_u Y 74 14 0) 75 5 0) 75 261 (nI c2.length)) 75) 262 322 ((am_u (am_u (am_u Y 74 14 0) 75 5 0) 75 261 (nI c2.length)) 81) ((am_u (am_u (am_u Y 74 14 0) 75 5 0) 75 261 (nI c2.length)) 82) 0 = (am_u (am_u (am_u Y 74 14 0) 75 5 0) 75 261 (nI c2.length)) 75 from rfl, ← am_ur_self] at hp
          refine hp ?_
          have hY75 : Y 75 = h 75 := (hY.1.1 75 rfl).trans hZ75
          have hq : ∀ a, [9, 19, 20, 21, 56, 57, 58, 59, 60, 74, 75, 81, 82].elem a = false → (am_ur (am_u (am_u (am_u Y 74 14 0) 75 5 0) 75 261 (nI c2.length)) 75 (tr_row ((am_u (am_u (am_u Y 74 14 0) 75 5 0) 75 261 (nI c2.length)) 75) 262 322 ((am_u (am_u (am_u Y 74 14 0) 75 5 0) 75 261 (nI c2.length)) 81) ((am_u (am_u (am_u Y 74 14 0) 75 5 0) 75 261 (nI c2.length)) 82) c2.length)) a = h a := fun a ha => by
            rw [am_ur_off _ _ (am_nel ha rfl), am_u_off _ _ _ (am_nel ha rfl), am_u_off _ _ _ (am_nel ha rfl), am_u_off _ _ _ (am_nel ha rfl), hY.1.1 a (am_sub ha rfl)]
            show ((am_u (am_u (am_u (am_u (am_u Z 74 15 1) 74 11 0) 74 12 0) 74 13 0) 74 14 0)) a = h a
            rw [am_u_off _ _ _ (am_nel ha rfl), am_u_off _ _ _ (am_nel ha rfl), am_u_off _ _ _ (am_nel ha rfl), am_u_off _ _ _ (am_nel ha rfl), am_u_off _ _ _ (am_nel ha rfl)]
            exact hZo a (am_sub ha rfl)
          have e2 : (am_ur (am_u (am_u (am_u Y 74 14 0) 75 5 0) 75 261 (nI c2.length)) 75 (tr_row ((am_u (am_u (am_u Y 74 14 0) 75 5 0) 75 261 (nI c2.length)) 75) 262 322 ((am_u (am_u (am_u Y 74 14 0) 75 5 0) 75 261 (nI c2.length)) 81) ((am_u (am_u (am_u Y 74 14 0) 75 5 0) 75 261 (nI c2.length)) 82) c2.length)) 74 2 = h 74 2 := ((hY.1.2 2 (by decide) (by decide) (by decide) (by decide)).trans (show Z 74 2 = h 74 2 from by rw [hZ74]))
          have e25 : (am_ur (am_u (am_u (am_u Y 74 14 0) 75 5 0) 75 261 (nI c2.length)) 75 (tr_row ((am_u (am_u (am_u Y 74 14 0) 75 5 0) 75 261 (nI c2.length)) 75) 262 322 ((am_u (am_u (am_u Y 74 14 0) 75 5 0) 75 261 (nI c2.length)) 81) ((am_u (am_u (am_u Y 74 14 0) 75 5 0) 75 261 (nI c2.length)) 82) c2.length)) 74 25 = h 74 25 := ((hY.1.2 25 (by decide) (by decide) (by decide) (by decide)).trans (show Z 74 25 = h 74 25 from by rw [hZ74]))
          have e75 : (am_ur (am_u (am_u (am_u Y 74 14 0) 75 5 0) 75 261 (nI c2.length)) 75 (tr_row ((am_u (am_u (am_u Y 74 14 0) 75 5 0) 75 261 (nI c2.length)) 75) 262 322 ((am_u (am_u (am_u Y 74 14 0) 75 5 0) 75 261 (nI c2.length)) 81) ((am_u (am_u (am_u Y 74 14 0) 75 5 0) 75 261 (nI c2.length)) 82) c2.length)) 75 = (tr_row (upd (upd (h 75) 5 0) 261 (nI c2.length)) 262 322 (Y 81) (Y 82) c2.length) := by
            show tr_row (upd (upd (Y 75) 5 0) 261 (nI c2.length)) 262 322 (Y 81) (Y 82) c2.length = _
            rw [hY75]
          have e9 : (am_ur (am_u (am_u (am_u Y 74 14 0) 75 5 0) 75 261 (nI c2.length)) 75 (tr_row ((am_u (am_u (am_u Y 74 14 0) 75 5 0) 75 261 (nI c2.length)) 75) 262 322 ((am_u (am_u (am_u Y 74 14 0) 75 5 0) 75 261 (nI c2.length)) 81) ((am_u (am_u (am_u Y 74 14 0) 75 5 0) 75 261 (nI c2.length)) 82) c2.length)) 9 = upd (h 9) 1 0 := (hY.1.1 9 rfl).trans hZ9
          have f0 : (am_ur (am_u (am_u (am_u Y 74 14 0) 75 5 0) 75 261 (nI c2.length)) 75 (tr_row ((am_u (am_u (am_u Y 74 14 0) 75 5 0) 75 261 (nI c2.length)) 75) 262 322 ((am_u (am_u (am_u Y 74 14 0) 75 5 0) 75 261 (nI c2.length)) 81) ((am_u (am_u (am_u Y 74 14 0) 75 5 0) 75 261 (nI c2.length)) 82) c2.length)) 19 = upd (h 19) 4 1 := (hY.1.1 19 rfl).trans hZ0
          have f1 : (am_ur (am_u (am_u (am_u Y 74 14 0) 75 5 0) 75 261 (nI c2.length)) 75 (tr_row ((am_u (am_u (am_u Y 74 14 0) 75 5 0) 75 261 (nI c2.length)) 75) 262 322 ((am_u (am_u (am_u Y 74 14 0) 75 5 0) 75 261 (nI c2.length)) 81) ((am_u (am_u (am_u Y 74 14 0) 75 5 0) 75 261 (nI c2.length)) 82) c2.length)) 20 = Z 20 := hY.1.1 20 rfl
          have f2 : (am_ur (am_u (am_u (am_u Y 74 14 0) 75 5 0) 75 261 (nI c2.length)) 75 (tr_row ((am_u (am_u (am_u Y 74 14 0) 75 5 0) 75 261 (nI c2.length)) 75) 262 322 ((am_u (am_u (am_u Y 74 14 0) 75 5 0) 75 261 (nI c2.length)) 81) ((am_u (am_u (am_u Y 74 14 0) 75 5 0) 75 261 (nI c2.length)) 82) c2.length)) 21 = Z 21 := hY.1.1 21 rfl
          have hL1 : Z 20 1 = nI c2.length := hZ1
          have hL2 := hZ2
          have hL4 : upd (h 19) 4 1 0 = h 19 0 := pk_un (by decide)
          have hL5 : upd (h 19) 4 1 1 = h 19 1 := pk_un (by decide)
          have hL6 : upd (h 19) 4 1 4 = 1 := pk_us
          replace hL4 := hL4.trans H.2.2.2.2.2.2.2.2.2.2.2.1.2.2.2.1
          replace hL5 := hL5.trans H.2.2.2.2.2.2.2.2.2.2.2.1.2.2.2.2.1
          have hH : ∃ n c t tp wt s0 s1 p0 p1, re_H (am_ur (am_u (am_u (am_u Y 74 14 0) 75 5 0) 75 261 (nI c2.length)) 75 (tr_row ((am_u (am_u (am_u Y 74 14 0) 75 5 0) 75 261 (nI c2.length)) 75) 262 322 ((am_u (am_u (am_u Y 74 14 0) 75 5 0) 75 261 (nI c2.length)) 81) ((am_u (am_u (am_u Y 74 14 0) 75 5 0) 75 261 (nI c2.length)) 82) c2.length)) n c t tp wt s0 s1 p0 p1 := by
            refine ⟨n, c, t, 0, wt, s0, 1, p0, c2, ?_⟩
            unfold re_H
            rw [hq 1 rfl, hq 2 rfl, hq 3 rfl, hq 4 rfl, hq 5 rfl, hq 6 rfl, hq 7 rfl, hq 8 rfl, hq 10 rfl, hq 11 rfl, hq 12 rfl, hq 14 rfl, hq 15 rfl, hq 16 rfl, e9, e75, f0, f1, f2]
            exact re_txG H ((tr_off c2.length (by omega) (by omega)).trans ((pk_un (by omega)).trans pk_us)) (fun j h1 h2 => (tr_off c2.length (by omega) (by omega)).trans ((pk_un (by omega)).trans (pk_un h1))) (re_law_m H.2.2.2.2.2.2.2.2.2.2.1 (fun i h1 h2 => (tr_off c2.length (by omega) (by omega)).trans ((pk_un (by omega)).trans (pk_un (by omega))))) (re_law_n hL1 hL2 hl2 hL4 hL5 hL6 hwf ((tr_off c2.length (by omega) (by omega)).trans pk_us) (fun i hi => by rw [show tr_row (upd (upd (h 75) 5 0) 261 (nI c2.length)) 262 322 (Y 81) (Y 82) c2.length (261 + 1 + i) = Y 81 i from tr_a (by decide) c2.length hl2 hi, show tr_row (upd (upd (h 75) 5 0) 261 (nI c2.length)) 262 322 (Y 81) (Y 82) c2.length (261 + 61 + i) = Y 82 i from tr_w (by decide) c2.length hl2 hi]; exact hY.2.2.2.2.2.2.2.2 i hi))
          exact kk2 _ _ (re_keep74 hR (fun a ha => hq a (am_sub ha rfl)) e2 e25 hH)
        · skip
          have c63n : ¬ (tp ≤ q2) := fun q => c63 ((nI_leI (a := tp) (b := q2) (by omega) (by omega)).mpr q)
          exact absurd (hrun.symm.trans (te_no hE (by omega) tp (Nat.le_refl _))) (fun e => by cases e)
      · skip
        intro Y q2 hY hF
        exact absurd (hrun.symm.trans (hF [] rfl (by decide) (by decide) tp (Nat.le_refl _))) (fun e => by cases e)
    · skip
      intro X2 p2 hrun hoff hp2
      show am_wp L xs _ _ _ _ 28 [.ref 0, .int 1, am_du] [.int (nI p2)] (am_S 10) X2 _
      refine wp_run 2 (pc' := 30) (ls' := [.ref 0, .int 1, .int (nI p2)]) (st' := [.ref 0]) rfl ?_
      refine wp_getr 1 rfl rfl rfl ?_
      refine wp_getr 9 rfl rfl rfl ?_
      refine wp_run 1 (pc' := 37) (ls' := [.ref 0, .int 1, .int (nI p2)]) (st' := [.int 0, .ref 9]) rfl ?_
      refine wp_puti rfl rfl ?_
      refine wp_run 2 (pc' := 42) (ls' := [.ref 0, .int 1, .int (nI p2)]) (st' := [.int (-1), .int (nI p2)]) rfl ?_
      refine wp_icmp_f rfl (show ¬ ((nI p2) = (-1)) from pu_ne1 (by omega)) ?_
      refine wp_run 3 (pc' := 49) (ls' := [.ref 0, .int 1, .int (nI p2)]) (st' := [.int ((-10) - (nI p2))]) rfl ?_
      refine wp_ret rfl ?_
      refine kk _ _ _ (fun ms2 Q2 kk2 => ?_)
      refine am_gen (fun Z hZ => ?_)
      have hZo : ∀ a, [9, 56, 57, 58, 59, 60].elem a = false → Z a = h a := fun a ha => by
        rw [hZ, am_u_off _ _ _ (am_nel ha rfl)]
        exact hoff a (am_sub ha rfl)
      have hZ75 : Z 75 = h 75 := hZo 75 rfl
      have hZ74 : Z 74 = h 74 := hZo 74 rfl
      have hZ9 : Z 9 = upd (h 9) 1 0 := by
        rw [hZ]
        show upd (X2 9) 1 0 = _
        rw [hoff 9 rfl]
      refine wp_run 3 (pc' := 3) (ls' := [.ref 74, .int 1, am_du, am_du]) (st' := [.int 1, .int 0, .int 1]) rfl ?_
      refine wp_callS (as := [.int 1, .int 0, .int 1]) (rest := []) (els := [.int 1, .int 0, .int 1]) rfl rfl rfl rfl rfl rfl rfl rfl (by omega) ?_
      refine sp_m_in0 (m := 1) rfl rfl (fun _ _ _ => ?_) (fun q => absurd rfl (q 1 (by omega)))
      show am_wp L xs _ _ _ _ 6 [.ref 74, .int 1, am_du, am_du] [.int 1] (am_S 10) Z _
      refine wp_if_t rfl (show ¬ (1 : Int32) = 0 from by decide) ?_
      refine wp_run 2 (pc' := 18) (ls' := [.ref 74, .int 1, am_du, am_du]) (st' := [.int 1, .ref 74]) rfl ?_
      refine wp_puti rfl rfl ?_
      refine wp_run 2 (pc' := 23) (ls' := [.ref 74, .int 1, am_du, am_du]) (st' := [.int 0, .ref 74]) rfl ?_
      refine wp_puti rfl rfl ?_
      refine wp_run 2 (pc' := 28) (ls' := [.ref 74, .int 1, am_du, am_du]) (st' := [.int 0, .ref 74]) rfl ?_
      refine wp_puti rfl rfl ?_
      refine wp_run 2 (pc' := 33) (ls' := [.ref 74, .int 1, am_du, am_du]) (st' := [.int 0, .ref 74]) rfl ?_
      refine wp_puti rfl rfl ?_
      refine wp_run 2 (pc' := 38) (ls' := [.ref 74, .int 1, am_du, am_du]) (st' := [.int 0, .ref 74]) rfl ?_
      refine wp_putz rfl (Or.inl rfl) rfl ?_
      refine wp_run 1 (pc' := 42) (ls' := [.ref 74, .int 1, am_du, am_du]) (st' := [.ref 74]) rfl ?_
      refine wp_callV (o := 74) (as := []) (rest := []) (els := [.ref 74]) rfl rfl rfl rfl rfl rfl rfl rfl (by omega) ?_
      refine (sp_any L xs (h := (am_u (am_u (am_u (am_u (am_u Z 74 15 1) 74 11 0) 74 12 0) 74 13 0) 74 14 0)) (B := h 10) (tp := tp) (u := 1) htp (show Z 75 5 = nI tp from by rw [hZ75]; exact H.2.2.2.2.2.2.2.2.1.2.1) (fun i hi => (show Z 75 (56 + i) = h 10 i from by rw [hZ75]; exact (H.2.2.2.2.2.2.2.2.1.2.2.2 i hi).symm)) (by omega) rfl 5).2 _ _ _ 0 0 [] (am_u (am_u (am_u (am_u (am_u Z 74 15 1) 74 11 0) 74 12 0) 74 13 0) 74 14 0) _ (by omega) rfl ⟨⟨fun _ _ => rfl, fun _ _ _ _ _ => rfl⟩, rfl, rfl, rfl, rfl, Nat.le_refl _, Nat.zero_le _, Nat.zero_le _, fun i hi => absurd hi (Nat.not_lt_zero _)⟩ ?_ ?_
      · skip
        intro Y q2 c3 hY hE hL
        have hq2t := hY.2.2.2.2.2.2.1
        show am_wp L xs _ _ _ _ 45 [.ref 74, .int 1, am_du, am_du] [] (am_S 10) Y _
        refine wp_run 2 (pc' := 47) (ls' := [.ref 74, .int 1, am_du, am_du]) (st' := [.ref 74, .ref 74]) rfl ?_
        refine wp_geti (a := 14) 0 hY.2.2.2.2.1 rfl rfl rfl ?_
        refine wp_if_f rfl (show ¬ (¬ (0 : Int32) = 0) from by decide) ?_
        refine wp_run 1 (pc' := 54) (ls' := [.ref 74, .int 1, am_du, am_du]) (st' := [.ref 74, .ref 74]) rfl ?_
        refine wp_geti (a := 12) (nI q2) hY.2.2.1 rfl rfl rfl ?_
        refine wp_run 1 (pc' := 58) (ls' := [.ref 74, .int 1, am_du, am_du]) (st' := [.ref 74, .int (nI q2), .ref 74]) rfl ?_
        refine wp_getr 75 rfl rfl rfl ?_
        refine wp_run 1 (pc' := 62) (ls' := [.ref 74, .int 1, am_du, am_du]) (st' := [.int 5, .ref 75, .int (nI q2), .ref 74]) rfl ?_
        refine wp_ald (i := 5) (nI tp) (show Y 75 5 = nI tp from by rw [hY.1.1 75 rfl]; exact (show Z 75 5 = nI tp from by rw [hZ75]; exact H.2.2.2.2.2.2.2.2.1.2.1)) rfl rfl rfl (by decide) rfl ?_
        refine wp_icmp rfl (fun (c63 : (nI tp) ≤ (nI q2)) => ?_) (fun (c63 : ¬ ((nI tp) ≤ (nI q2))) => ?_)
        · skip
          have c63n : tp ≤ q2 := (nI_leI (a := tp) (b := q2) (by omega) (by omega)).mp c63
          exact absurd (hrun.symm.trans ((te_ok hE (by omega)).1 tp (Nat.le_refl _))) (fun e => by cases e)
        · skip
          have c63n : ¬ (tp ≤ q2) := fun q => c63 ((nI_leI (a := tp) (b := q2) (by omega) (by omega)).mpr q)
          have eq2 : p2 = q2 := Sum.inl.inj (hrun.symm.trans (te_no hE (by omega) tp (Nat.le_refl _)))
          subst eq2
          refine wp_run 2 (pc' := 71) (ls' := [.ref 74, .int 1, am_du, am_du]) (st' := [.int 1, .ref 74]) rfl ?_
          refine wp_putz rfl (Or.inr rfl) rfl ?_
          refine wp_run 1 (pc' := 75) (ls' := [.ref 74, .int 1, am_du, am_du]) (st' := [.ref 74]) rfl ?_
          refine wp_getr 75 rfl rfl rfl ?_
          refine wp_run 2 (pc' := 80) (ls' := [.ref 74, .int 1, am_du, am_du]) (st' := [.int 0, .int 5, .ref 75]) rfl ?_
          refine wp_ast rfl rfl rfl (by decide) rfl ?_
          refine wp_run 1 (pc' := 82) (ls' := [.ref 74, .int 1, am_du, am_du]) (st' := [.ref 74]) rfl ?_
          refine wp_geti (a := 14) 1 rfl rfl rfl rfl ?_
          refine wp_if_f rfl (show ¬ ((1 : Int32) = 0) from by decide) ?_
          refine wp_run 2 (pc' := 91) (ls' := [.ref 74, .int 1, am_du, am_du]) (st' := [.ref 74, .int (-10)]) rfl ?_
          refine wp_geti (a := 12) (nI p2) hY.2.2.1 rfl rfl rfl ?_
          refine wp_run 1 (pc' := 95) (ls' := [.ref 74, .int 1, am_du, am_du]) (st' := [.int ((-10) - (nI p2))]) rfl ?_
          refine wp_ret rfl ?_
          have hY75 : Y 75 = h 75 := (hY.1.1 75 rfl).trans hZ75
          have hq : ∀ a, [9, 56, 57, 58, 59, 60, 74, 75, 81, 82].elem a = false → (am_u (am_u Y 74 14 1) 75 5 0) a = h a := fun a ha => by
            rw [am_u_off _ _ _ (am_nel ha rfl), am_u_off _ _ _ (am_nel ha rfl), hY.1.1 a (am_sub ha rfl)]
            show ((am_u (am_u (am_u (am_u (am_u Z 74 15 1) 74 11 0) 74 12 0) 74 13 0) 74 14 0)) a = h a
            rw [am_u_off _ _ _ (am_nel ha rfl), am_u_off _ _ _ (am_nel ha rfl), am_u_off _ _ _ (am_nel ha rfl), am_u_off _ _ _ (am_nel ha rfl), am_u_off _ _ _ (am_nel ha rfl)]
            exact hZo a (am_sub ha rfl)
          have e2 : (am_u (am_u Y 74 14 1) 75 5 0) 74 2 = h 74 2 := ((hY.1.2 2 (by decide) (by decide) (by decide) (by decide)).trans (show Z 74 2 = h 74 2 from by rw [hZ74]))
          have e25 : (am_u (am_u Y 74 14 1) 75 5 0) 74 25 = h 74 25 := ((hY.1.2 25 (by decide) (by decide) (by decide) (by decide)).trans (show Z 74 25 = h 74 25 from by rw [hZ74]))
          have e75 : (am_u (am_u Y 74 14 1) 75 5 0) 75 = (upd (h 75) 5 0) := by
            show upd (Y 75) 5 0 = _
            rw [hY75]
          have e9 : (am_u (am_u Y 74 14 1) 75 5 0) 9 = upd (h 9) 1 0 := (hY.1.1 9 rfl).trans hZ9
          have hH : ∃ n c t tp wt s0 s1 p0 p1, re_H (am_u (am_u Y 74 14 1) 75 5 0) n c t tp wt s0 s1 p0 p1 := by
            refine ⟨n, c, t, 0, wt, s0, s1, p0, p1, ?_⟩
            unfold re_H
            rw [hq 1 rfl, hq 2 rfl, hq 3 rfl, hq 4 rfl, hq 5 rfl, hq 6 rfl, hq 7 rfl, hq 8 rfl, hq 10 rfl, hq 11 rfl, hq 12 rfl, hq 14 rfl, hq 15 rfl, hq 16 rfl, hq 19 rfl, hq 20 rfl, hq 21 rfl, e9, e75]
            exact re_txG H pk_us (fun j h1 h2 => pk_un h1) (re_law_m H.2.2.2.2.2.2.2.2.2.2.1 (fun i h1 h2 => pk_un (by omega))) (re_law_m H.2.2.2.2.2.2.2.2.2.2.2 (fun i h1 h2 => pk_un (by omega)))
          exact kk2 _ _ (re_keep74 hR (fun a ha => hq a (am_sub ha rfl)) e2 e25 hH)
      · skip
        intro Y q2 hY hF
        have eq2 : p2 = q2 := Sum.inl.inj (hrun.symm.trans (hF [] rfl (by decide) (by decide) tp (Nat.le_refl _)))
        subst eq2
        show am_wp L xs _ _ _ _ 45 [.ref 74, .int 1, am_du, am_du] [] (am_S 10) Y _
        refine wp_run 2 (pc' := 47) (ls' := [.ref 74, .int 1, am_du, am_du]) (st' := [.ref 74, .ref 74]) rfl ?_
        refine wp_geti (a := 14) 1 hY.2.2.2.2.1 rfl rfl rfl ?_
        refine wp_if_t rfl (show ¬ (1 : Int32) = 0 from by decide) ?_
        refine wp_run 2 (pc' := 71) (ls' := [.ref 74, .int 1, am_du, am_du]) (st' := [.int 1, .ref 74]) rfl ?_
        refine wp_putz rfl (Or.inr rfl) rfl ?_
        refine wp_run 1 (pc' := 75) (ls' := [.ref 74, .int 1, am_du, am_du]) (st' := [.ref 74]) rfl ?_
        refine wp_getr 75 rfl rfl rfl ?_
        refine wp_run 2 (pc' := 80) (ls' := [.ref 74, .int 1, am_du, am_du]) (st' := [.int 0, .int 5, .ref 75]) rfl ?_
        refine wp_ast rfl rfl rfl (by decide) rfl ?_
        refine wp_run 1 (pc' := 82) (ls' := [.ref 74, .int 1, am_du, am_du]) (st' := [.ref 74]) rfl ?_
        refine wp_geti (a := 14) 1 rfl rfl rfl rfl ?_
        refine wp_if_f rfl (show ¬ ((1 : Int32) = 0) from by decide) ?_
        refine wp_run 2 (pc' := 91) (ls' := [.ref 74, .int 1, am_du, am_du]) (st' := [.ref 74, .int (-10)]) rfl ?_
        refine wp_geti (a := 12) (nI p2) hY.2.2.1 rfl rfl rfl ?_
        refine wp_run 1 (pc' := 95) (ls' := [.ref 74, .int 1, am_du, am_du]) (st' := [.int ((-10) - (nI p2))]) rfl ?_
        refine wp_ret rfl ?_
        have hY75 : Y 75 = h 75 := (hY.1.1 75 rfl).trans hZ75
        have hq : ∀ a, [9, 56, 57, 58, 59, 60, 74, 75, 81, 82].elem a = false → (am_u (am_u Y 74 14 1) 75 5 0) a = h a := fun a ha => by
          rw [am_u_off _ _ _ (am_nel ha rfl), am_u_off _ _ _ (am_nel ha rfl), hY.1.1 a (am_sub ha rfl)]
          show ((am_u (am_u (am_u (am_u (am_u Z 74 15 1) 74 11 0) 74 12 0) 74 13 0) 74 14 0)) a = h a
          rw [am_u_off _ _ _ (am_nel ha rfl), am_u_off _ _ _ (am_nel ha rfl), am_u_off _ _ _ (am_nel ha rfl), am_u_off _ _ _ (am_nel ha rfl), am_u_off _ _ _ (am_nel ha rfl)]
          exact hZo a (am_sub ha rfl)
        have e2 : (am_u (am_u Y 74 14 1) 75 5 0) 74 2 = h 74 2 := ((hY.1.2 2 (by decide) (by decide) (by decide) (by decide)).trans (show Z 74 2 = h 74 2 from by rw [hZ74]))
        have e25 : (am_u (am_u Y 74 14 1) 75 5 0) 74 25 = h 74 25 := ((hY.1.2 25 (by decide) (by decide) (by decide) (by decide)).trans (show Z 74 25 = h 74 25 from by rw [hZ74]))
        have e75 : (am_u (am_u Y 74 14 1) 75 5 0) 75 = (upd (h 75) 5 0) := by
          show upd (Y 75) 5 0 = _
          rw [hY75]
        have e9 : (am_u (am_u Y 74 14 1) 75 5 0) 9 = upd (h 9) 1 0 := (hY.1.1 9 rfl).trans hZ9
        have hH : ∃ n c t tp wt s0 s1 p0 p1, re_H (am_u (am_u Y 74 14 1) 75 5 0) n c t tp wt s0 s1 p0 p1 := by
          refine ⟨n, c, t, 0, wt, s0, s1, p0, p1, ?_⟩
          unfold re_H
          rw [hq 1 rfl, hq 2 rfl, hq 3 rfl, hq 4 rfl, hq 5 rfl, hq 6 rfl, hq 7 rfl, hq 8 rfl, hq 10 rfl, hq 11 rfl, hq 12 rfl, hq 14 rfl, hq 15 rfl, hq 16 rfl, hq 19 rfl, hq 20 rfl, hq 21 rfl, e9, e75]
          exact re_txG H pk_us (fun j h1 h2 => pk_un h1) (re_law_m H.2.2.2.2.2.2.2.2.2.2.1 (fun i h1 h2 => pk_un (by omega))) (re_law_m H.2.2.2.2.2.2.2.2.2.2.2 (fun i h1 h2 => pk_un (by omega)))
        exact kk2 _ _ (re_keep74 hR (fun a ha => hq a (am_sub ha rfl)) e2 e25 hH)
  · skip
    intro hnx1
    show am_wp L xs _ _ _ _ 4 [.ref 0, .int x1, am_du] [.int 0] (am_S b) h _
    refine wp_if_f rfl (show ¬ (¬ (0 : Int32) = 0) from by decide) ?_
    refine wp_run 2 (pc' := 9) (ls' := [.ref 0, .int x1, am_du]) (st' := [.int 1, .ref 0]) rfl ?_
    refine wp_callV (o := 0) (as := [.int 1]) (rest := []) (els := [.ref 0, .int 1]) rfl rfl rfl rfl rfl rfl rfl rfl (by omega) ?_
    refine sp_refuse1 (by omega) ?_
    show am_wp L xs _ _ _ _ 12 [.ref 0, .int x1, am_du] [.int (-1000000001)] (am_S b) (am_u h 73 1 (h 73 1 + 1)) _
    refine wp_ret rfl ?_
    refine kk _ _ _ (fun ms2 Q2 kk2 => ?_)
    refine wp_run 3 (pc' := 3) (ls' := [.ref 74, .int x1, am_du, am_du]) (st' := [.int 1, .int 0, .int x1]) rfl ?_
    refine wp_callS (as := [.int x1, .int 0, .int 1]) (rest := []) (els := [.int x1, .int 0, .int 1]) rfl rfl rfl rfl rfl rfl rfl rfl (by omega) ?_
    refine sp_m_in0 (m := 1) rfl rfl (fun k hk e => absurd e (hnx1 k hk)) (fun _ => ?_)
    show am_wp L xs _ _ _ _ 6 [.ref 74, .int x1, am_du, am_du] [.int 0] (am_S b) (am_u h 73 1 (h 73 1 + 1)) _
    refine wp_if_f rfl (show ¬ (¬ (0 : Int32) = 0) from by decide) ?_
    refine wp_run 2 (pc' := 12) (ls' := [.ref 74, .int x1, am_du, am_du]) (st' := [.int (-1000000001), .ref 74]) rfl ?_
    refine wp_callV (o := 74) (as := [.int (-1000000001)]) (rest := []) (els := [.ref 74, .int (-1000000001)]) rfl rfl rfl rfl rfl rfl rfl rfl (by omega) ?_
    refine sp_error1 ?_
    show am_wp L xs _ _ _ _ 15 [.ref 74, .int x1, am_du, am_du] [.int (-1000000001)] (am_S b) (am_u (am_u h 73 1 (h 73 1 + 1)) 77 1 ((am_u h 73 1 (h 73 1 + 1)) 77 1 + 1)) _
    refine wp_ret rfl ?_
    exact kk2 _ _ (re_err1 hR)
