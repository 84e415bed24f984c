/-! calls tied: what changes the row at single places -/
theorem pu_two {P : Prop} {x : Int32} (h0 : x = 0 → P) (h1 : x = 1 → P) : ∀ k, k ≤ 1 → x = nI k → P := fun k hk e => by
  have q : k = 0 ∨ k = 1 := by omega
  rcases q with rfl | rfl
  · exact h0 e
  · exact h1 e
theorem pu_btw {v : Int32} {a m : Nat} (ha : a ≤ m) (hm : m < 2 ^ 31) : (nI a ≤ v ∧ v ≤ nI m) ↔ ∃ k, a ≤ k ∧ k ≤ m ∧ v = nI k := by
  constructor
  · rintro ⟨h1, h2⟩
    obtain ⟨k, hk, rfl⟩ := pu_of hm (Int32.le_trans (pu_0 (by omega)) h1) h2
    exact ⟨k, (nI_leI (by omega) (by omega)).mp h1, hk, rfl⟩
  · rintro ⟨k, h1, h2, rfl⟩
    exact ⟨pu_le (by omega) h1, pu_le hm h2⟩
theorem sp_x_within16 {L : Nat} {xs : Nat → Int32} {d ms : Nat} {h : am_HI} {sh : am_SH} {Q : am_Q} {v : Int32} (kt : ∀ k, 1 ≤ k → k ≤ 6 → v = nI k → Q (some (.int 1)) sh h) (kf : (∀ k, 1 ≤ k → k ≤ 6 → v ≠ nI k) → Q (some (.int 0)) sh h) : am_wp L xs d 0 ms 11 0 [.int v, .int 1, .int 6] [] sh h Q :=
  sp_x_within (fun q => by
    obtain ⟨k, h1, h2, e⟩ := (pu_btw (a := 1) (m := 6) (by omega) (by omega)).mp q
    exact kt k h1 h2 e) (fun q => kf (fun k h1 h2 e => q ((pu_btw (a := 1) (m := 6) (by omega) (by omega)).mpr ⟨k, h1, h2, e⟩)))
theorem sp_m_in16 {L : Nat} {xs : Nat → Int32} {d ms : Nat} {h : am_HI} {sh : am_SH} {Q : am_Q} {v : Int32} (kt : ∀ k, 1 ≤ k → k ≤ 6 → v = nI k → Q (some (.int 1)) sh h) (kf : (∀ k, 1 ≤ k → k ≤ 6 → v ≠ nI k) → Q (some (.int 0)) sh h) : am_wp L xs d 0 ms 131 0 [.int v, .int 1, .int 6] [] sh h Q :=
  sp_m_in (fun q => by
    obtain ⟨k, h1, h2, e⟩ := (pu_btw (a := 1) (m := 6) (by omega) (by omega)).mp q
    exact kt k h1 h2 e) (fun q => kf (fun k h1 h2 e => q ((pu_btw (a := 1) (m := 6) (by omega) (by omega)).mpr ⟨k, h1, h2, e⟩)))
theorem re_hase {h : am_HI} {n c t tp wt : Nat} {s0 s1 : Int32} {p0 p1 : List Int32} (H : re_H h n c t tp wt s0 s1 p0 p1) {g : Nat} (hg : g < n) : h 5 g = h 75 (7 + 4 * g + 3) := (H.2.2.2.2.1 g (by have := H.1.2.2; omega)).2.2.2
theorem re_wear {h : am_HI} {n c t tp wt : Nat} {s0 s1 : Int32} {p0 p1 : List Int32} (H : re_H h n c t tp wt s0 s1 p0 p1) {v : Int32} {w1 w2 : Nat} (hw1 : w1 < n) (hq1 : ∀ q, q < w1 → h 5 q ≠ v) (he1 : h 5 w1 = v) (hw2 : w2 < n) (hq2 : ∀ q, q < w2 → h 75 (7 + 4 * q + 3) ≠ v) (he2 : h 75 (7 + 4 * w2 + 3) = v) : w1 = w2 := by
  rcases Nat.lt_trichotomy w1 w2 with q | q | q
  · exact absurd ((re_hase H hw1).symm.trans he1) (hq2 w1 q)
  · exact q
  · exact absurd ((re_hase H hw2).trans he2) (hq1 w2 q)
theorem re_g5 {w z s e m m2 : Nat → Int32} (h : ∀ g, g < 7 → w g = m (7 + 4 * g) ∧ z g = m (7 + 4 * g + 1) ∧ s g = m (7 + 4 * g + 2) ∧ e g = m (7 + 4 * g + 3)) (q : ∀ i, 7 ≤ i → i < 35 → m2 i = m i) : ∀ g, g < 7 → w g = m2 (7 + 4 * g) ∧ z g = m2 (7 + 4 * g + 1) ∧ s g = m2 (7 + 4 * g + 2) ∧ e g = m2 (7 + 4 * g + 3) := fun g hg => by
  rw [q _ (by omega) (by omega), q _ (by omega) (by omega), q _ (by omega) (by omega), q _ (by omega) (by omega)]
  exact h g hg
theorem re_g6 {w z s m m2 : Nat → Int32} (h : ∀ j, j < 7 → w j = m (35 + 3 * j) ∧ z j = m (35 + 3 * j + 1) ∧ s j = m (35 + 3 * j + 2)) (q : ∀ i, 35 ≤ i → i < 56 → m2 i = m i) : ∀ j, j < 7 → w j = m2 (35 + 3 * j) ∧ z j = m2 (35 + 3 * j + 1) ∧ s j = m2 (35 + 3 * j + 2) := fun g hg => by
  rw [q _ (by omega) (by omega), q _ (by omega) (by omega), q _ (by omega) (by omega)]
  exact h g hg
theorem re_g9 {r m m2 : Nat → Int32} {l : Nat} (hl : l ≤ 60) (h : ∀ i, i < l → r i = m (56 + i)) (q : ∀ i, 56 ≤ i → i < 116 → m2 i = m i) : ∀ i, i < l → r i = m2 (56 + i) := fun i hi => by
  rw [q _ (by omega) (by omega)]
  exact h i hi
theorem re_g10 {r m m2 : Nat → Int32} {l : Nat} (hl : l ≤ 24) (h : ∀ i, i < l → r i = m (116 + i)) (q : ∀ i, 116 ≤ i → i < 140 → m2 i = m i) : ∀ i, i < l → r i = m2 (116 + i) := fun i hi => by
  rw [q _ (by omega) (by omega)]
  exact h i hi
theorem op_coatIs {L : Nat} {xs : Nat → Int32} {d ms b N : Nat} {h : am_HI} {Q : am_Q} {x1 : Int32} {x2 : Int32} (hd : 30 ≤ d) (hR : am_Rel N h) (hN : N < 100000)
    (kk : ∀ v b1 h1, (∀ ms2 Q2, (∀ b2 h2, am_Rel (N + 1) h2 → Q2 (some (.int v)) (am_S b2) h2) → am_wp L xs d 0 ms2 147 0 [.ref 74, .int x1, .int x2] [] (am_S b1) h1 Q2) → Q (some (.int v)) (am_S b1) h1) :
    am_wp L xs d 0 ms 30 0 [.ref 0, .int x1, .int x2] [] (am_S b) h Q := by
  obtain ⟨⟨n, c, t, tp, wt, s0, s1, p0, p1, H⟩, hI, hE, hS0, hS1, hS2, hS3, hT⟩ := id hR
  have hn := H.1.1
  have hm2 := H.1.2.1
  have hn7 := H.1.2.2
  have hc := H.2.1.1
  have hm3 := H.2.1.2.1
  have hc7 := H.2.1.2.2
  have ht := H.2.2.1.1
  have hm0 := H.2.2.1.2.1
  have ht9 := H.2.2.1.2.2
  have HS := re_hs H
  have HM := re_ms H
  refine wp_run 1 (pc' := 1) (ls' := [.ref 0, .int x1, .int x2]) (st' := [.ref 0]) rfl ?_
  refine wp_getr 1 rfl rfl rfl ?_
  refine wp_run 1 (pc' := 5) (ls' := [.ref 0, .int x1, .int x2]) (st' := [.int x1, .ref 1]) rfl ?_
  refine wp_callV (o := 1) (as := [.int x1]) (rest := []) (els := [.ref 1, .int x1]) rfl rfl rfl rfl rfl rfl rfl rfl (by omega) ?_
  refine sp_hasCoat hc hc7 (by omega) ?_ ?_
  · skip
    intro kx1 hkx1 ex1
    subst ex1
    show am_wp L xs _ _ _ _ 8 [.ref 0, .int (nI kx1), .int x2] [.int 1] (am_S b) h _
    refine wp_if_t rfl (show ¬ (1 : Int32) = 0 from by decide) ?_
    refine wp_run 1 (pc' := 18) (ls' := [.ref 0, .int (nI kx1), .int x2]) (st' := [.int x2]) rfl ?_
    refine wp_switch [(0, 48), (1, 58), (2, 68), (3, 78)] rfl rfl rfl ?_ ?_
    · refine List.forall_mem_cons.mpr ⟨fun (sw18 : x2 = _) => ?_, List.forall_mem_cons.mpr ⟨fun (sw18 : x2 = _) => ?_, List.forall_mem_cons.mpr ⟨fun (sw18 : x2 = _) => ?_, List.forall_mem_cons.mpr ⟨fun (sw18 : x2 = _) => ?_, fun _ h => absurd h List.not_mem_nil⟩⟩⟩⟩
      · skip
        have esw : x2 = 0 := sw18
        subst esw
        refine wp_run 1 (pc' := 49) (ls' := [.ref 0, .int (nI kx1), .int 0]) (st' := [.ref 0]) rfl ?_
        refine wp_getr 1 rfl rfl rfl ?_
        refine wp_getr 6 rfl rfl rfl ?_
        refine wp_run 1 (pc' := 56) (ls' := [.ref 0, .int (nI kx1), .int 0]) (st' := [.int (nI kx1), .ref 6]) rfl ?_
        refine wp_ald (i := kx1) (h 6 kx1) rfl rfl rfl rfl (by omega) rfl ?_
        refine wp_ret rfl ?_
        refine kk _ _ _ (fun ms2 Q2 kk2 => ?_)
        refine wp_run 2 (pc' := 2) (ls' := [.ref 74, .int (nI kx1), .int 0]) (st' := [.int (nI kx1), .ref 74]) rfl ?_
        refine wp_callV (o := 74) (as := [.int (nI kx1)]) (rest := []) (els := [.ref 74, .int (nI kx1)]) rfl rfl rfl rfl rfl rfl rfl rfl (by omega) ?_
        refine sp_m_isCoat hm3 hc7 (by omega) (fun _ _ _ => ?_) (fun q => absurd rfl (q kx1 (by omega)))
        show am_wp L xs _ _ _ _ 5 [.ref 74, .int (nI kx1), .int 0] [.int 1] (am_S b) h _
        refine wp_if_f rfl (show ¬ ((1 : Int32) = 0) from by decide) ?_
        refine wp_run 3 (pc' := 11) (ls' := [.ref 74, .int (nI kx1), .int 0]) (st' := [.int 3, .int 0, .int 0]) rfl ?_
        refine wp_callS (as := [.int 0, .int 0, .int 3]) (rest := []) (els := [.int 0, .int 0, .int 3]) rfl rfl rfl rfl rfl rfl rfl rfl (by omega) ?_
        refine sp_m_in0 (m := 3) rfl rfl (fun _ _ _ => ?_) (fun q => absurd rfl (q 0 (by omega)))
        show am_wp L xs _ _ _ _ 14 [.ref 74, .int (nI kx1), .int 0] [.int 1] (am_S b) h _
        refine wp_if_t rfl (show ¬ (1 : Int32) = 0 from by decide) ?_
        refine wp_run 2 (pc' := 26) (ls' := [.ref 74, .int (nI kx1), .int 0]) (st' := [.int 3, .int 0]) rfl ?_
        refine wp_icmp_f rfl (show ¬ (3 ≤ (0 : Int32)) from by decide) ?_
        refine wp_run 3 (pc' := 32) (ls' := [.ref 74, .int (nI kx1), .int 0]) (st' := [.int 0, .int (nI kx1), .ref 74]) rfl ?_
        refine wp_callV (o := 74) (as := [.int (nI kx1), .int 0]) (rest := []) (els := [.ref 74, .int (nI kx1), .int 0]) rfl rfl rfl rfl rfl rfl rfl rfl (by omega) ?_
        refine sp_of (w := 0) (h 75 (35 + 3 * kx1)) rfl (by omega) (by omega) ?_
        show am_wp L xs _ _ _ _ 35 [.ref 74, .int (nI kx1), .int 0] [.int (h 75 (35 + 3 * kx1))] (am_S b) h _
        refine wp_run 1 (pc' := 43) (ls' := [.ref 74, .int (nI kx1), .int 0]) (st' := [.int (h 75 (35 + 3 * kx1))]) rfl ?_
        refine wp_ret rfl ?_
        rw [show ((h 75 (35 + 3 * kx1)) : Int32) = (h 6 kx1) from (H.2.2.2.2.2.1 kx1 (by omega)).1.symm]
        exact kk2 _ _ ⟨⟨n, c, t, tp, wt, s0, s1, p0, p1, H⟩, re_im_s hI, hE, hS0, hS1, hS2, hS3, hT⟩
      · skip
        have esw : x2 = 1 := sw18
        subst esw
        refine wp_run 1 (pc' := 59) (ls' := [.ref 0, .int (nI kx1), .int 1]) (st' := [.ref 0]) rfl ?_
        refine wp_getr 1 rfl rfl rfl ?_
        refine wp_getr 7 rfl rfl rfl ?_
        refine wp_run 1 (pc' := 66) (ls' := [.ref 0, .int (nI kx1), .int 1]) (st' := [.int (nI kx1), .ref 7]) rfl ?_
        refine wp_ald (i := kx1) (h 7 kx1) rfl rfl rfl rfl (by omega) rfl ?_
        refine wp_ret rfl ?_
        refine kk _ _ _ (fun ms2 Q2 kk2 => ?_)
        refine wp_run 2 (pc' := 2) (ls' := [.ref 74, .int (nI kx1), .int 1]) (st' := [.int (nI kx1), .ref 74]) rfl ?_
        refine wp_callV (o := 74) (as := [.int (nI kx1)]) (rest := []) (els := [.ref 74, .int (nI kx1)]) rfl rfl rfl rfl rfl rfl rfl rfl (by omega) ?_
        refine sp_m_isCoat hm3 hc7 (by omega) (fun _ _ _ => ?_) (fun q => absurd rfl (q kx1 (by omega)))
        show am_wp L xs _ _ _ _ 5 [.ref 74, .int (nI kx1), .int 1] [.int 1] (am_S b) h _
        refine wp_if_f rfl (show ¬ ((1 : Int32) = 0) from by decide) ?_
        refine wp_run 3 (pc' := 11) (ls' := [.ref 74, .int (nI kx1), .int 1]) (st' := [.int 3, .int 0, .int 1]) rfl ?_
        refine wp_callS (as := [.int 1, .int 0, .int 3]) (rest := []) (els := [.int 1, .int 0, .int 3]) rfl rfl rfl rfl rfl rfl rfl rfl (by omega) ?_
        refine sp_m_in0 (m := 3) rfl rfl (fun _ _ _ => ?_) (fun q => absurd rfl (q 1 (by omega)))
        show am_wp L xs _ _ _ _ 14 [.ref 74, .int (nI kx1), .int 1] [.int 1] (am_S b) h _
        refine wp_if_t rfl (show ¬ (1 : Int32) = 0 from by decide) ?_
        refine wp_run 2 (pc' := 26) (ls' := [.ref 74, .int (nI kx1), .int 1]) (st' := [.int 3, .int 1]) rfl ?_
        refine wp_icmp_f rfl (show ¬ (3 ≤ (1 : Int32)) from by decide) ?_
        refine wp_run 3 (pc' := 32) (ls' := [.ref 74, .int (nI kx1), .int 1]) (st' := [.int 1, .int (nI kx1), .ref 74]) rfl ?_
        refine wp_callV (o := 74) (as := [.int (nI kx1), .int 1]) (rest := []) (els := [.ref 74, .int (nI kx1), .int 1]) rfl rfl rfl rfl rfl rfl rfl rfl (by omega) ?_
        refine sp_of (w := 1) (h 75 (35 + 3 * kx1 + 1)) rfl (by omega) (by omega) ?_
        show am_wp L xs _ _ _ _ 35 [.ref 74, .int (nI kx1), .int 1] [.int (h 75 (35 + 3 * kx1 + 1))] (am_S b) h _
        refine wp_run 1 (pc' := 43) (ls' := [.ref 74, .int (nI kx1), .int 1]) (st' := [.int (h 75 (35 + 3 * kx1 + 1))]) rfl ?_
        refine wp_ret rfl ?_
        rw [show ((h 75 (35 + 3 * kx1 + 1)) : Int32) = (h 7 kx1) from (H.2.2.2.2.2.1 kx1 (by omega)).2.1.symm]
        exact kk2 _ _ ⟨⟨n, c, t, tp, wt, s0, s1, p0, p1, H⟩, re_im_s hI, hE, hS0, hS1, hS2, hS3, hT⟩
      · skip
        have esw : x2 = 2 := sw18
        subst esw
        refine wp_run 1 (pc' := 69) (ls' := [.ref 0, .int (nI kx1), .int 2]) (st' := [.ref 0]) rfl ?_
        refine wp_getr 1 rfl rfl rfl ?_
        refine wp_getr 8 rfl rfl rfl ?_
        refine wp_run 1 (pc' := 76) (ls' := [.ref 0, .int (nI kx1), .int 2]) (st' := [.int (nI kx1), .ref 8]) rfl ?_
        refine wp_ald (i := kx1) (h 8 kx1) rfl rfl rfl rfl (by omega) rfl ?_
        refine wp_ret rfl ?_
        refine kk _ _ _ (fun ms2 Q2 kk2 => ?_)
        refine wp_run 2 (pc' := 2) (ls' := [.ref 74, .int (nI kx1), .int 2]) (st' := [.int (nI kx1), .ref 74]) rfl ?_
        refine wp_callV (o := 74) (as := [.int (nI kx1)]) (rest := []) (els := [.ref 74, .int (nI kx1)]) rfl rfl rfl rfl rfl rfl rfl rfl (by omega) ?_
        refine sp_m_isCoat hm3 hc7 (by omega) (fun _ _ _ => ?_) (fun q => absurd rfl (q kx1 (by omega)))
        show am_wp L xs _ _ _ _ 5 [.ref 74, .int (nI kx1), .int 2] [.int 1] (am_S b) h _
        refine wp_if_f rfl (show ¬ ((1 : Int32) = 0) from by decide) ?_
        refine wp_run 3 (pc' := 11) (ls' := [.ref 74, .int (nI kx1), .int 2]) (st' := [.int 3, .int 0, .int 2]) rfl ?_
        refine wp_callS (as := [.int 2, .int 0, .int 3]) (rest := []) (els := [.int 2, .int 0, .int 3]) rfl rfl rfl rfl rfl rfl rfl rfl (by omega) ?_
        refine sp_m_in0 (m := 3) rfl rfl (fun _ _ _ => ?_) (fun q => absurd rfl (q 2 (by omega)))
        show am_wp L xs _ _ _ _ 14 [.ref 74, .int (nI kx1), .int 2] [.int 1] (am_S b) h _
        refine wp_if_t rfl (show ¬ (1 : Int32) = 0 from by decide) ?_
        refine wp_run 2 (pc' := 26) (ls' := [.ref 74, .int (nI kx1), .int 2]) (st' := [.int 3, .int 2]) rfl ?_
        refine wp_icmp_f rfl (show ¬ (3 ≤ (2 : Int32)) from by decide) ?_
        refine wp_run 3 (pc' := 32) (ls' := [.ref 74, .int (nI kx1), .int 2]) (st' := [.int 2, .int (nI kx1), .ref 74]) rfl ?_
        refine wp_callV (o := 74) (as := [.int (nI kx1), .int 2]) (rest := []) (els := [.ref 74, .int (nI kx1), .int 2]) rfl rfl rfl rfl rfl rfl rfl rfl (by omega) ?_
        refine sp_of (w := 2) (h 75 (35 + 3 * kx1 + 2)) rfl (by omega) (by omega) ?_
        show am_wp L xs _ _ _ _ 35 [.ref 74, .int (nI kx1), .int 2] [.int (h 75 (35 + 3 * kx1 + 2))] (am_S b) h _
        refine wp_run 1 (pc' := 43) (ls' := [.ref 74, .int (nI kx1), .int 2]) (st' := [.int (h 75 (35 + 3 * kx1 + 2))]) rfl ?_
        refine wp_ret rfl ?_
        rw [show ((h 75 (35 + 3 * kx1 + 2)) : Int32) = (h 8 kx1) from (H.2.2.2.2.2.1 kx1 (by omega)).2.2.symm]
        exact kk2 _ _ ⟨⟨n, c, t, tp, wt, s0, s1, p0, p1, H⟩, re_im_s hI, hE, hS0, hS1, hS2, hS3, hT⟩
      · skip
        have esw : x2 = 3 := sw18
        subst esw
        refine wp_run 1 (pc' := 79) (ls' := [.ref 0, .int (nI kx1), .int 3]) (st' := [.ref 0]) rfl ?_
        refine wp_getr 1 rfl rfl rfl ?_
        refine wp_run 1 (pc' := 83) (ls' := [.ref 0, .int (nI kx1), .int 3]) (st' := [.int (nI kx1), .ref 1]) rfl ?_
        refine wp_callV (o := 1) (as := [.int (nI kx1)]) (rest := []) (els := [.ref 1, .int (nI kx1), am_du]) rfl rfl rfl rfl rfl rfl rfl rfl (by omega) ?_
        refine sp_wearerOf (v := (nI kx1)) hn hn7 ?_ ?_
        · skip
          intro w1 hw1 hq1 he1 hv1
          show am_wp L xs _ _ _ _ 86 [.ref 0, .int (nI kx1), .int 3] [.int (nI w1)] (am_S b) h _
          refine wp_ret rfl ?_
          refine kk _ _ _ (fun ms2 Q2 kk2 => ?_)
          refine wp_run 2 (pc' := 2) (ls' := [.ref 74, .int (nI kx1), .int 3]) (st' := [.int (nI kx1), .ref 74]) rfl ?_
          refine wp_callV (o := 74) (as := [.int (nI kx1)]) (rest := []) (els := [.ref 74, .int (nI kx1)]) rfl rfl rfl rfl rfl rfl rfl rfl (by omega) ?_
          refine sp_m_isCoat hm3 hc7 (by omega) (fun _ _ _ => ?_) (fun q => absurd rfl (q kx1 (by omega)))
          show am_wp L xs _ _ _ _ 5 [.ref 74, .int (nI kx1), .int 3] [.int 1] (am_S b) h _
          refine wp_if_f rfl (show ¬ ((1 : Int32) = 0) from by decide) ?_
          refine wp_run 3 (pc' := 11) (ls' := [.ref 74, .int (nI kx1), .int 3]) (st' := [.int 3, .int 0, .int 3]) rfl ?_
          refine wp_callS (as := [.int 3, .int 0, .int 3]) (rest := []) (els := [.int 3, .int 0, .int 3]) rfl rfl rfl rfl rfl rfl rfl rfl (by omega) ?_
          refine sp_m_in0 (m := 3) rfl rfl (fun _ _ _ => ?_) (fun q => absurd rfl (q 3 (by omega)))
          show am_wp L xs _ _ _ _ 14 [.ref 74, .int (nI kx1), .int 3] [.int 1] (am_S b) h _
          refine wp_if_t rfl (show ¬ (1 : Int32) = 0 from by decide) ?_
          refine wp_run 2 (pc' := 26) (ls' := [.ref 74, .int (nI kx1), .int 3]) (st' := [.int 3, .int 3]) rfl ?_
          refine wp_icmp_t rfl (show 3 ≤ (3 : Int32) from by decide) ?_
          refine wp_run 2 (pc' := 40) (ls' := [.ref 74, .int (nI kx1), .int 3]) (st' := [.int (nI kx1), .ref 74]) rfl ?_
          refine wp_callV (o := 74) (as := [.int (nI kx1)]) (rest := []) (els := [.ref 74, .int (nI kx1), am_du]) rfl rfl rfl rfl rfl rfl rfl rfl (by omega) ?_
          refine sp_whoWears (v := (nI kx1)) hm2 hn7 (by omega) (fun w2 hw2 hq2 he2 => ?_) (fun hf2 => absurd he1 (fun q => hf2 w1 hw1 ((re_hase H hw1).symm.trans q)))
          have ew : w1 = w2 := re_wear H hw1 hq1 he1 hw2 hq2 he2
          subst ew
          show am_wp L xs _ _ _ _ 43 [.ref 74, .int (nI kx1), .int 3] [.int (nI w1)] (am_S b) h _
          refine wp_ret rfl ?_
          exact kk2 _ _ ⟨⟨n, c, t, tp, wt, s0, s1, p0, p1, H⟩, re_im_s hI, hE, hS0, hS1, hS2, hS3, hT⟩
        · skip
          intro hf1
          show am_wp L xs _ _ _ _ 86 [.ref 0, .int (nI kx1), .int 3] [.int (-1)] (am_S b) h _
          refine wp_ret rfl ?_
          refine kk _ _ _ (fun ms2 Q2 kk2 => ?_)
          refine wp_run 2 (pc' := 2) (ls' := [.ref 74, .int (nI kx1), .int 3]) (st' := [.int (nI kx1), .ref 74]) rfl ?_
          refine wp_callV (o := 74) (as := [.int (nI kx1)]) (rest := []) (els := [.ref 74, .int (nI kx1)]) rfl rfl rfl rfl rfl rfl rfl rfl (by omega) ?_
          refine sp_m_isCoat hm3 hc7 (by omega) (fun _ _ _ => ?_) (fun q => absurd rfl (q kx1 (by omega)))
          show am_wp L xs _ _ _ _ 5 [.ref 74, .int (nI kx1), .int 3] [.int 1] (am_S b) h _
          refine wp_if_f rfl (show ¬ ((1 : Int32) = 0) from by decide) ?_
          refine wp_run 3 (pc' := 11) (ls' := [.ref 74, .int (nI kx1), .int 3]) (st' := [.int 3, .int 0, .int 3]) rfl ?_
          refine wp_callS (as := [.int 3, .int 0, .int 3]) (rest := []) (els := [.int 3, .int 0, .int 3]) rfl rfl rfl rfl rfl rfl rfl rfl (by omega) ?_
          refine sp_m_in0 (m := 3) rfl rfl (fun _ _ _ => ?_) (fun q => absurd rfl (q 3 (by omega)))
          show am_wp L xs _ _ _ _ 14 [.ref 74, .int (nI kx1), .int 3] [.int 1] (am_S b) h _
          refine wp_if_t rfl (show ¬ (1 : Int32) = 0 from by decide) ?_
          refine wp_run 2 (pc' := 26) (ls' := [.ref 74, .int (nI kx1), .int 3]) (st' := [.int 3, .int 3]) rfl ?_
          refine wp_icmp_t rfl (show 3 ≤ (3 : Int32) from by decide) ?_
          refine wp_run 2 (pc' := 40) (ls' := [.ref 74, .int (nI kx1), .int 3]) (st' := [.int (nI kx1), .ref 74]) rfl ?_
          refine wp_callV (o := 74) (as := [.int (nI kx1)]) (rest := []) (els := [.ref 74, .int (nI kx1), am_du]) rfl rfl rfl rfl rfl rfl rfl rfl (by omega) ?_
          refine sp_whoWears (v := (nI kx1)) hm2 hn7 (by omega) (fun w2 hw2 hq2 he2 => hf1.elim (fun q => absurd q (pu_ne1 (by omega))) (fun q => absurd ((re_hase H hw2).trans he2) (q w2 hw2))) (fun hf2 => ?_)
          show am_wp L xs _ _ _ _ 43 [.ref 74, .int (nI kx1), .int 3] [.int (-1)] (am_S b) h _
          refine wp_ret rfl ?_
          exact kk2 _ _ ⟨⟨n, c, t, tp, wt, s0, s1, p0, p1, H⟩, re_im_s hI, hE, hS0, hS1, hS2, hS3, hT⟩
    · intro sw18
      simp only [List.forall_mem_cons] at sw18
      have hsw : ∀ k, k ≤ 3 → x2 ≠ nI k := fun k hk e => by
        have hk2 : k = 0 ∨ k = 1 ∨ k = 2 ∨ k = 3 := by omega
        rcases hk2 with e2 | e2 | e2 | e2
        · subst e2; exact sw18.1 e
        · subst e2; exact sw18.2.1 e
        · subst e2; exact sw18.2.2.1 e
        · subst e2; exact sw18.2.2.2.1 e
      refine wp_run 2 (pc' := 89) (ls' := [.ref 0, .int (nI kx1), .int x2]) (st' := [.int 1, .ref 0]) rfl ?_
      refine wp_callV (o := 0) (as := [.int 1]) (rest := []) (els := [.ref 0, .int 1]) rfl rfl rfl rfl rfl rfl rfl rfl (by omega) ?_
      refine sp_refuse1 (by omega) ?_
      show am_wp L xs _ _ _ _ 92 [.ref 0, .int (nI kx1), .int x2] [.int (-1000000001)] (am_S b) (am_u h 73 1 (h 73 1 + 1)) _
      refine wp_ret rfl ?_
      refine kk _ _ _ (fun ms2 Q2 kk2 => ?_)
      refine wp_run 2 (pc' := 2) (ls' := [.ref 74, .int (nI kx1), .int x2]) (st' := [.int (nI kx1), .ref 74]) rfl ?_
      refine wp_callV (o := 74) (as := [.int (nI kx1)]) (rest := []) (els := [.ref 74, .int (nI kx1)]) rfl rfl rfl rfl rfl rfl rfl rfl (by omega) ?_
      refine sp_m_isCoat hm3 hc7 (by omega) (fun _ _ _ => ?_) (fun q => absurd rfl (q kx1 (by omega)))
      show am_wp L xs _ _ _ _ 5 [.ref 74, .int (nI kx1), .int x2] [.int 1] (am_S b) (am_u h 73 1 (h 73 1 + 1)) _
      refine wp_if_f rfl (show ¬ ((1 : Int32) = 0) from by decide) ?_
      refine wp_run 3 (pc' := 11) (ls' := [.ref 74, .int (nI kx1), .int x2]) (st' := [.int 3, .int 0, .int x2]) rfl ?_
      refine wp_callS (as := [.int x2, .int 0, .int 3]) (rest := []) (els := [.int x2, .int 0, .int 3]) rfl rfl rfl rfl rfl rfl rfl rfl (by omega) ?_
      refine sp_m_in0 (m := 3) rfl rfl (fun k hk e => absurd e (hsw k hk)) (fun _ => ?_)
      show am_wp L xs _ _ _ _ 14 [.ref 74, .int (nI kx1), .int x2] [.int 0] (am_S b) (am_u h 73 1 (h 73 1 + 1)) _
      refine wp_if_f rfl (show ¬ (¬ (0 : Int32) = 0) from by decide) ?_
      refine wp_run 2 (pc' := 20) (ls' := [.ref 74, .int (nI kx1), .int x2]) (st' := [.int (-1000000001), .ref 74]) rfl ?_
      refine wp_callV (o := 74) (as := [.int (-1000000001)]) (rest := []) (els := [.ref 74, .int (-1000000001)]) rfl rfl rfl rfl rfl rfl rfl rfl (by omega) ?_
      refine sp_error1 ?_
      show am_wp L xs _ _ _ _ 23 [.ref 74, .int (nI kx1), .int x2] [.int (-1000000001)] (am_S b) (am_u (am_u h 73 1 (h 73 1 + 1)) 77 1 ((am_u h 73 1 (h 73 1 + 1)) 77 1 + 1)) _
      refine wp_ret rfl ?_
      exact kk2 _ _ (re_err1 hR)
  · skip
    intro hnx1
    show am_wp L xs _ _ _ _ 8 [.ref 0, .int x1, .int x2] [.int 0] (am_S b) h _
    refine wp_if_f rfl (show ¬ (¬ (0 : Int32) = 0) from by decide) ?_
    refine wp_run 2 (pc' := 13) (ls' := [.ref 0, .int x1, .int x2]) (st' := [.int 1, .ref 0]) rfl ?_
    refine wp_callV (o := 0) (as := [.int 1]) (rest := []) (els := [.ref 0, .int 1]) rfl rfl rfl rfl rfl rfl rfl rfl (by omega) ?_
    refine sp_refuse1 (by omega) ?_
    show am_wp L xs _ _ _ _ 16 [.ref 0, .int x1, .int x2] [.int (-1000000001)] (am_S b) (am_u h 73 1 (h 73 1 + 1)) _
    refine wp_ret rfl ?_
    refine kk _ _ _ (fun ms2 Q2 kk2 => ?_)
    refine wp_run 2 (pc' := 2) (ls' := [.ref 74, .int x1, .int x2]) (st' := [.int x1, .ref 74]) rfl ?_
    refine wp_callV (o := 74) (as := [.int x1]) (rest := []) (els := [.ref 74, .int x1]) rfl rfl rfl rfl rfl rfl rfl rfl (by omega) ?_
    refine sp_m_isCoat hm3 hc7 (by omega) (fun k hk e => absurd e (hnx1 k hk)) (fun _ => ?_)
    show am_wp L xs _ _ _ _ 5 [.ref 74, .int x1, .int x2] [.int 0] (am_S b) (am_u h 73 1 (h 73 1 + 1)) _
    refine wp_if_t rfl (show (0 : Int32) = 0 from by decide) ?_
    refine wp_run 2 (pc' := 20) (ls' := [.ref 74, .int x1, .int x2]) (st' := [.int (-1000000001), .ref 74]) rfl ?_
    refine wp_callV (o := 74) (as := [.int (-1000000001)]) (rest := []) (els := [.ref 74, .int (-1000000001)]) rfl rfl rfl rfl rfl rfl rfl rfl (by omega) ?_
    refine sp_error1 ?_
    show am_wp L xs _ _ _ _ 23 [.ref 74, .int x1, .int x2] [.int (-1000000001)] (am_S b) (am_u (am_u h 73 1 (h 73 1 + 1)) 77 1 ((am_u h 73 1 (h 73 1 + 1)) 77 1 + 1)) _
    refine wp_ret rfl ?_
    exact kk2 _ _ (re_err1 hR)
theorem op_law {L : Nat} {xs : Nat → Int32} {d ms b N : Nat} {h : am_HI} {Q : am_Q} {x1 : Int32} {x2 : Int32} {x3 : Int32} {x4 : Int32} (hd : 30 ≤ d) (hR : am_Rel N h) (hN : N < 100000)
    (kk : ∀ v b1 h1, (∀ ms2 Q2, (∀ b2 h2, am_Rel (N + 1) h2 → Q2 (some (.int v)) (am_S b2) h2) → am_wp L xs d 0 ms2 175 0 [.ref 74, .int x1, .int x2, .int x3, .int x4] [] (am_S b1) h1 Q2) → Q (some (.int v)) (am_S b1) h1) :
    am_wp L xs d 0 ms 67 0 [.ref 0, .int x1, .int x2, .int x3, .int x4] [] (am_S b) h Q := by
  obtain ⟨⟨n, c, t, tp, wt, s0, s1, p0, p1, H⟩, hI, hE, hS0, hS1, hS2, hS3, hT⟩ := id hR
  have hn := H.1.1
  have hm2 := H.1.2.1
  have hn7 := H.1.2.2
  have hc := H.2.1.1
  have hm3 := H.2.1.2.1
  have hc7 := H.2.1.2.2
  have ht := H.2.2.1.1
  have hm0 := H.2.2.1.2.1
  have ht9 := H.2.2.1.2.2
  have HS := re_hs H
  have HM := re_ms H
  refine wp_run 1 (pc' := 1) (ls' := [.ref 0, .int x1, .int x2, .int x3, .int x4]) (st' := [.int x1]) rfl ?_
  refine wp_callS (as := [.int x1]) (rest := []) (els := [.int x1]) rfl rfl rfl rfl rfl rfl rfl rfl (by omega) ?_
  refine sp_x_isUse (by omega) (pu_two ?_ ?_) ?_
  · skip
    intro ex1
    subst ex1
    show am_wp L xs _ _ _ _ 4 [.ref 0, .int 0, .int x2, .int x3, .int x4] [.int 1] (am_S b) h _
    refine wp_if_t rfl (show ¬ (1 : Int32) = 0 from by decide) ?_
    refine wp_run 1 (pc' := 14) (ls' := [.ref 0, .int 0, .int x2, .int x3, .int x4]) (st' := [.ref 0]) rfl ?_
    refine wp_getr 1 rfl rfl rfl ?_
    refine wp_getr 13 rfl rfl rfl ?_
    refine wp_run 1 (pc' := 21) (ls' := [.ref 0, .int 0, .int x2, .int x3, .int x4]) (st' := [.int 0, .ref 13]) rfl ?_
    refine wp_aald (r := 14) rfl rfl (Or.inl rfl) rfl (by decide) rfl rfl ?_
    refine wp_run 3 (pc' := 26) (ls' := [.ref 0, .int 0, .int x2, .int x3, .int x4]) (st' := [.int x4, .int x3, .int x2, .ref 14]) rfl ?_
    refine wp_callV (o := 14) (as := [.int x2, .int x3, .int x4]) (rest := []) (els := [.ref 14, .int x2, .int x3, .int x4, am_du, am_du, am_du]) rfl rfl rfl rfl rfl rfl rfl rfl (by omega) ?_
    refine sp_gives14 (h := h) HS.2.2.2.2.2.2.1.1 HS.2.2.2.2.2.2.1.2.1 HS.2.2.2.2.2.2.1.2.2.1 HS.2.2.2.2.2.2.1.2.2.2.1 HS.2.2.2.2.2.2.1.2.2.2.2.1 (by decide) HS.2.2.2.2.2.2.1.2.2.2.2.2.1 HS.2.2.2.2.2.2.1.2.2.2.2.2.2 (by omega) (fun gz1 => ?_)
    show am_wp L xs _ _ _ _ 29 [.ref 0, .int 0, .int x2, .int x3, .int x4] [.int (pu_gv s0 p0 x2 x3 x4 0 99)] (am_S b) (am_ov h [17, 18] gz1) _
    refine wp_ret rfl ?_
    refine kk _ _ _ (fun ms2 Q2 kk2 => ?_)
    refine wp_run 3 (pc' := 3) (ls' := [.ref 74, .int 0, .int x2, .int x3, .int x4]) (st' := [.int 1, .int 0, .int 0]) rfl ?_
    refine wp_callS (as := [.int 0, .int 0, .int 1]) (rest := []) (els := [.int 0, .int 0, .int 1]) rfl rfl rfl rfl rfl rfl rfl rfl (by omega) ?_
    refine sp_m_in0 (m := 1) rfl rfl (fun _ _ _ => ?_) (fun q => absurd rfl (q 0 (by omega)))
    show am_wp L xs _ _ _ _ 6 [.ref 74, .int 0, .int x2, .int x3, .int x4] [.int 1] (am_S b) (am_ov h [17, 18] gz1) _
    refine wp_if_f rfl (show ¬ ((1 : Int32) = 0) from by decide) ?_
    refine wp_run 5 (pc' := 15) (ls' := [.ref 74, .int 0, .int x2, .int x3, .int x4]) (st' := [.int x4, .int x3, .int x2, .int 0, .ref 74]) rfl ?_
    refine wp_callV (o := 74) (as := [.int 0, .int x2, .int x3, .int x4]) (rest := []) (els := [.ref 74, .int 0, .int x2, .int x3, .int x4, am_du, am_du]) rfl rfl rfl rfl rfl rfl rfl rfl (by omega) ?_
    refine sp_mgives0 (h := (am_ov h [17, 18] gz1)) HM.2.2.2.2.2.2.1.1 HM.2.2.2.2.2.2.1.2.1 HM.2.2.2.2.2.2.1.2.2 (by omega) (fun gz2 => ?_)
    show am_wp L xs _ _ _ _ 18 [.ref 74, .int 0, .int x2, .int x3, .int x4] [.int (pu_gv s0 p0 x2 x3 x4 0 99)] (am_S b) (am_ov (am_ov h [17, 18] gz1) [83, 84] gz2) _
    refine wp_run 1 (pc' := 27) (ls' := [.ref 74, .int 0, .int x2, .int x3, .int x4]) (st' := [.int (pu_gv s0 p0 x2 x3 x4 0 99)]) rfl ?_
    refine wp_ret rfl ?_
    exact kk2 _ _ ⟨⟨n, c, t, tp, wt, s0, s1, p0, p1, H⟩, re_im_s hI, hE, hS0, hS1, hS2, hS3, hT⟩
  · skip
    intro ex1
    subst ex1
    show am_wp L xs _ _ _ _ 4 [.ref 0, .int 1, .int x2, .int x3, .int x4] [.int 1] (am_S b) h _
    refine wp_if_t rfl (show ¬ (1 : Int32) = 0 from by decide) ?_
    refine wp_run 1 (pc' := 14) (ls' := [.ref 0, .int 1, .int x2, .int x3, .int x4]) (st' := [.ref 0]) rfl ?_
    refine wp_getr 1 rfl rfl rfl ?_
    refine wp_getr 13 rfl rfl rfl ?_
    refine wp_run 1 (pc' := 21) (ls' := [.ref 0, .int 1, .int x2, .int x3, .int x4]) (st' := [.int 1, .ref 13]) rfl ?_
    refine wp_aald (r := 19) rfl rfl (Or.inl rfl) rfl (by decide) rfl rfl ?_
    refine wp_run 3 (pc' := 26) (ls' := [.ref 0, .int 1, .int x2, .int x3, .int x4]) (st' := [.int x4, .int x3, .int x2, .ref 19]) rfl ?_
    refine wp_callV (o := 19) (as := [.int x2, .int x3, .int x4]) (rest := []) (els := [.ref 19, .int x2, .int x3, .int x4, am_du, am_du, am_du]) rfl rfl rfl rfl rfl rfl rfl rfl (by omega) ?_
    refine sp_gives19 (h := h) HS.2.2.2.2.2.2.2.1.1 HS.2.2.2.2.2.2.2.1.2.1 HS.2.2.2.2.2.2.2.1.2.2.1 HS.2.2.2.2.2.2.2.1.2.2.2.1 HS.2.2.2.2.2.2.2.1.2.2.2.2.1 (by decide) HS.2.2.2.2.2.2.2.1.2.2.2.2.2.1 HS.2.2.2.2.2.2.2.1.2.2.2.2.2.2 (by omega) (fun gz1 => ?_)
    show am_wp L xs _ _ _ _ 29 [.ref 0, .int 1, .int x2, .int x3, .int x4] [.int (pu_gv s1 p1 x2 x3 x4 (-99) 99)] (am_S b) (am_ov h [22, 23] gz1) _
    refine wp_ret rfl ?_
    refine kk _ _ _ (fun ms2 Q2 kk2 => ?_)
    refine wp_run 3 (pc' := 3) (ls' := [.ref 74, .int 1, .int x2, .int x3, .int x4]) (st' := [.int 1, .int 0, .int 1]) rfl ?_
    refine wp_callS (as := [.int 1, .int 0, .int 1]) (rest := []) (els := [.int 1, .int 0, .int 1]) rfl rfl rfl rfl rfl rfl rfl rfl (by omega) ?_
    refine sp_m_in0 (m := 1) rfl rfl (fun _ _ _ => ?_) (fun q => absurd rfl (q 1 (by omega)))
    show am_wp L xs _ _ _ _ 6 [.ref 74, .int 1, .int x2, .int x3, .int x4] [.int 1] (am_S b) (am_ov h [22, 23] gz1) _
    refine wp_if_f rfl (show ¬ ((1 : Int32) = 0) from by decide) ?_
    refine wp_run 5 (pc' := 15) (ls' := [.ref 74, .int 1, .int x2, .int x3, .int x4]) (st' := [.int x4, .int x3, .int x2, .int 1, .ref 74]) rfl ?_
    refine wp_callV (o := 74) (as := [.int 1, .int x2, .int x3, .int x4]) (rest := []) (els := [.ref 74, .int 1, .int x2, .int x3, .int x4, am_du, am_du]) rfl rfl rfl rfl rfl rfl rfl rfl (by omega) ?_
    refine sp_mgives1 (h := (am_ov h [22, 23] gz1)) HM.2.2.2.2.2.2.2.1.1 HM.2.2.2.2.2.2.2.1.2.1 HM.2.2.2.2.2.2.2.1.2.2 (by omega) (fun gz2 => ?_)
    show am_wp L xs _ _ _ _ 18 [.ref 74, .int 1, .int x2, .int x3, .int x4] [.int (pu_gv s1 p1 x2 x3 x4 (-99) 99)] (am_S b) (am_ov (am_ov h [22, 23] gz1) [83, 84] gz2) _
    refine wp_run 1 (pc' := 27) (ls' := [.ref 74, .int 1, .int x2, .int x3, .int x4]) (st' := [.int (pu_gv s1 p1 x2 x3 x4 (-99) 99)]) rfl ?_
    refine wp_ret rfl ?_
    exact kk2 _ _ ⟨⟨n, c, t, tp, wt, s0, s1, p0, p1, H⟩, re_im_s hI, hE, hS0, hS1, hS2, hS3, hT⟩
  · skip
    intro hnx1
    show am_wp L xs _ _ _ _ 4 [.ref 0, .int x1, .int x2, .int x3, .int x4] [.int 0] (am_S b) h _
    refine wp_if_f rfl (show ¬ (¬ (0 : Int32) = 0) from by decide) ?_
    refine wp_run 2 (pc' := 9) (ls' := [.ref 0, .int x1, .int x2, .int x3, .int x4]) (st' := [.int 1, .ref 0]) rfl ?_
    refine wp_callV (o := 0) (as := [.int 1]) (rest := []) (els := [.ref 0, .int 1]) rfl rfl rfl rfl rfl rfl rfl rfl (by omega) ?_
    refine sp_refuse1 (by omega) ?_
    show am_wp L xs _ _ _ _ 12 [.ref 0, .int x1, .int x2, .int x3, .int x4] [.int (-1000000001)] (am_S b) (am_u h 73 1 (h 73 1 + 1)) _
    refine wp_ret rfl ?_
    refine kk _ _ _ (fun ms2 Q2 kk2 => ?_)
    refine wp_run 3 (pc' := 3) (ls' := [.ref 74, .int x1, .int x2, .int x3, .int x4]) (st' := [.int 1, .int 0, .int x1]) rfl ?_
    refine wp_callS (as := [.int x1, .int 0, .int 1]) (rest := []) (els := [.int x1, .int 0, .int 1]) rfl rfl rfl rfl rfl rfl rfl rfl (by omega) ?_
    refine sp_m_in0 (m := 1) rfl rfl (fun k hk e => absurd e (hnx1 k hk)) (fun _ => ?_)
    show am_wp L xs _ _ _ _ 6 [.ref 74, .int x1, .int x2, .int x3, .int x4] [.int 0] (am_S b) (am_u h 73 1 (h 73 1 + 1)) _
    refine wp_if_t rfl (show (0 : Int32) = 0 from by decide) ?_
    refine wp_run 2 (pc' := 24) (ls' := [.ref 74, .int x1, .int x2, .int x3, .int x4]) (st' := [.int (-1000000001), .ref 74]) rfl ?_
    refine wp_callV (o := 74) (as := [.int (-1000000001)]) (rest := []) (els := [.ref 74, .int (-1000000001)]) rfl rfl rfl rfl rfl rfl rfl rfl (by omega) ?_
    refine sp_error1 ?_
    show am_wp L xs _ _ _ _ 27 [.ref 74, .int x1, .int x2, .int x3, .int x4] [.int (-1000000001)] (am_S b) (am_u (am_u h 73 1 (h 73 1 + 1)) 77 1 ((am_u h 73 1 (h 73 1 + 1)) 77 1 + 1)) _
    refine wp_ret rfl ?_
    exact kk2 _ _ (re_err1 hR)
theorem op_untell {L : Nat} {xs : Nat → Int32} {d ms b N : Nat} {h : am_HI} {Q : am_Q} {x1 : Int32} (hd : 30 ≤ d) (hR : am_Rel N h) (hN : N < 100000)
    (kk : ∀ v b1 h1, (∀ ms2 Q2, (∀ b2 h2, am_Rel (N + 1) h2 → Q2 (some (.int v)) (am_S b2) h2) → am_wp L xs d 0 ms2 174 0 [.ref 74, .int x1] [] (am_S b1) h1 Q2) → Q (some (.int v)) (am_S b1) h1) :
    am_wp L xs d 0 ms 66 0 [.ref 0, .int x1, am_du] [] (am_S b) h Q := by
  obtain ⟨⟨n, c, t, tp, wt, s0, s1, p0, p1, H⟩, hI, hE, hS0, hS1, hS2, hS3, hT⟩ := id hR
  have hn := H.1.1
  have hm2 := H.1.2.1
  have hn7 := H.1.2.2
  have hc := H.2.1.1
  have hm3 := H.2.1.2.1
  have hc7 := H.2.1.2.2
  have ht := H.2.2.1.1
  have hm0 := H.2.2.1.2.1
  have ht9 := H.2.2.1.2.2
  have HS := re_hs H
  have HM := re_ms H
  refine wp_run 1 (pc' := 1) (ls' := [.ref 0, .int x1, am_du]) (st' := [.int x1]) rfl ?_
  refine wp_callS (as := [.int x1]) (rest := []) (els := [.int x1]) rfl rfl rfl rfl rfl rfl rfl rfl (by omega) ?_
  refine sp_x_isUse (by omega) (pu_two ?_ ?_) ?_
  · skip
    intro ex1
    subst ex1
    show am_wp L xs _ _ _ _ 4 [.ref 0, .int 0, am_du] [.int 1] (am_S b) h _
    refine wp_if_t rfl (show ¬ (1 : Int32) = 0 from by decide) ?_
    rcases H.2.2.2.2.2.2.2.2.2.2.1.2 with ⟨es1, es2⟩ | ⟨es1, es2, es3, es4⟩
    · skip
      refine wp_run 1 (pc' := 14) (ls' := [.ref 0, .int 0, am_du]) (st' := [.ref 0]) rfl ?_
      refine wp_getr 1 rfl rfl rfl ?_
      refine wp_getr 13 rfl rfl rfl ?_
      refine wp_run 1 (pc' := 21) (ls' := [.ref 0, .int 0, am_du]) (st' := [.int 0, .ref 13]) rfl ?_
      refine wp_aald (r := 14) rfl rfl (Or.inl rfl) rfl (by decide) rfl rfl ?_
      refine wp_geti (a := 4) 0 (H.2.2.2.2.2.2.2.2.2.2.1.1.2.2.2.2.2.1.trans es1) rfl rfl rfl ?_
      refine wp_if_t rfl (show (0 : Int32) = 0 from by decide) ?_
      refine wp_run 3 (pc' := 35) (ls' := [.ref 0, .int 0, .int 0]) (st' := [.ref 0]) rfl ?_
      refine wp_getr 1 rfl rfl rfl ?_
      refine wp_getr 13 rfl rfl rfl ?_
      refine wp_run 1 (pc' := 42) (ls' := [.ref 0, .int 0, .int 0]) (st' := [.int 0, .ref 13]) rfl ?_
      refine wp_aald (r := 14) rfl rfl (Or.inl rfl) rfl (by decide) rfl rfl ?_
      refine wp_run 1 (pc' := 44) (ls' := [.ref 0, .int 0, .int 0]) (st' := [.int 0, .ref 14]) rfl ?_
      refine wp_putz rfl (Or.inl rfl) rfl ?_
      refine wp_run 1 (pc' := 48) (ls' := [.ref 0, .int 0, .int 0]) (st' := [.int 0]) rfl ?_
      refine wp_ret rfl ?_
      refine kk _ _ _ (fun ms2 Q2 kk2 => ?_)
      refine wp_run 3 (pc' := 3) (ls' := [.ref 74, .int 0]) (st' := [.int 1, .int 0, .int 0]) rfl ?_
      refine wp_callS (as := [.int 0, .int 0, .int 1]) (rest := []) (els := [.int 0, .int 0, .int 1]) rfl rfl rfl rfl rfl rfl rfl rfl (by omega) ?_
      refine sp_m_in0 (m := 1) rfl rfl (fun _ _ _ => ?_) (fun q => absurd rfl (q 0 (by omega)))
      show am_wp L xs _ _ _ _ 6 [.ref 74, .int 0] [.int 1] (am_S b) (am_u h 14 4 0) _
      refine wp_if_t rfl (show ¬ (1 : Int32) = 0 from by decide) ?_
      refine wp_run 7 (pc' := 26) (ls' := [.ref 74, .int 0]) (st' := [.int 0, .int (140 + (121 * 0)), .ref 74]) rfl ?_
      rw [show ((121 * 0) : Int32) = 0 from by decide]
      rw [show ((140 + 0) : Int32) = 140 from by decide]
      refine wp_callV (o := 74) (as := [.int 140, .int 0]) (rest := []) (els := [.ref 74, .int 140, .int 0, am_du]) rfl rfl rfl rfl rfl rfl rfl rfl (by omega) ?_
      refine sp_becomes (p := 140) (by omega) ?_
      rw [show (am_u h 14 4 0) 75 140 = 0 from es2]
      show am_wp L xs _ _ _ _ 29 [.ref 74, .int 0] [.int 0] (am_S b) (am_u (am_u h 14 4 0) 75 140 0) _
      refine wp_if_t rfl (show (0 : Int32) ≤ 0 from by decide) ?_
      refine wp_run 1 (pc' := 37) (ls' := [.ref 74, .int 0]) (st' := [.int 0]) rfl ?_
      refine wp_ret rfl ?_
      exact kk2 _ _ ⟨⟨n, c, t, tp, wt, 0, s1, p0, p1, ⟨⟨H.1.1, (show (upd (h 75) 140 0) 2 = h 75 2 from (if_neg (by omega))).trans H.1.2.1, H.1.2.2⟩, ⟨H.2.1.1, (show (upd (h 75) 140 0) 3 = h 75 3 from (if_neg (by omega))).trans H.2.1.2.1, H.2.1.2.2⟩, ⟨H.2.2.1.1, (show (upd (h 75) 140 0) 0 = h 75 0 from (if_neg (by omega))).trans H.2.2.1.2.1, H.2.2.1.2.2⟩, ⟨H.2.2.2.1.1.trans (show (upd (h 75) 140 0) 4 = h 75 4 from (if_neg (by omega))).symm, H.2.2.2.1.2.trans (show (upd (h 75) 140 0) 1 = h 75 1 from (if_neg (by omega))).symm⟩, re_g5 (m2 := (upd (h 75) 140 0)) H.2.2.2.2.1 (fun i h1 h2 => (if_neg (by omega))), re_g6 (m2 := (upd (h 75) 140 0)) H.2.2.2.2.2.1 (fun i h1 h2 => (if_neg (by omega))), H.2.2.2.2.2.2.1, H.2.2.2.2.2.2.2.1, ⟨H.2.2.2.2.2.2.2.2.1.1, (show (upd (h 75) 140 0) 5 = h 75 5 from (if_neg (by omega))).trans H.2.2.2.2.2.2.2.2.1.2.1, H.2.2.2.2.2.2.2.2.1.2.2.1, re_g9 (m2 := (upd (h 75) 140 0)) H.2.2.2.2.2.2.2.2.1.2.2.1 H.2.2.2.2.2.2.2.2.1.2.2.2 (fun i h1 h2 => (if_neg (by omega)))⟩, ⟨H.2.2.2.2.2.2.2.2.2.1.1, (show (upd (h 75) 140 0) 6 = h 75 6 from (if_neg (by omega))).trans H.2.2.2.2.2.2.2.2.2.1.2.1, H.2.2.2.2.2.2.2.2.2.1.2.2.1, re_g10 (m2 := (upd (h 75) 140 0)) H.2.2.2.2.2.2.2.2.2.1.2.2.1 H.2.2.2.2.2.2.2.2.2.1.2.2.2 (fun i h1 h2 => (if_neg (by omega)))⟩, ⟨⟨H.2.2.2.2.2.2.2.2.2.2.1.1.1, H.2.2.2.2.2.2.2.2.2.2.1.1.2.1, H.2.2.2.2.2.2.2.2.2.2.1.1.2.2.1, H.2.2.2.2.2.2.2.2.2.2.1.1.2.2.2.1, H.2.2.2.2.2.2.2.2.2.2.1.1.2.2.2.2.1, rfl, Or.inl rfl⟩, Or.inl ⟨rfl, rfl⟩⟩, re_law_m (m2 := (upd (h 75) 140 0)) H.2.2.2.2.2.2.2.2.2.2.2 (fun i h1 h2 => (if_neg (by omega)))⟩⟩, re_im_s hI, hE, hS0, hS1, hS2, hS3, hT⟩
    · skip
      have el : p0.length ≤ 60 := H.2.2.2.2.2.2.2.2.2.2.1.1.2.2.1
      refine wp_run 1 (pc' := 14) (ls' := [.ref 0, .int 0, am_du]) (st' := [.ref 0]) rfl ?_
      refine wp_getr 1 rfl rfl rfl ?_
      refine wp_getr 13 rfl rfl rfl ?_
      refine wp_run 1 (pc' := 21) (ls' := [.ref 0, .int 0, am_du]) (st' := [.int 0, .ref 13]) rfl ?_
      refine wp_aald (r := 14) rfl rfl (Or.inl rfl) rfl (by decide) rfl rfl ?_
      refine wp_geti (a := 4) 1 (H.2.2.2.2.2.2.2.2.2.2.1.1.2.2.2.2.2.1.trans es1) rfl rfl rfl ?_
      refine wp_if_f rfl (show ¬ ((1 : Int32) = 0) from by decide) ?_
      refine wp_run 4 (pc' := 35) (ls' := [.ref 0, .int 0, .int 1]) (st' := [.ref 0]) rfl ?_
      refine wp_getr 1 rfl rfl rfl ?_
      refine wp_getr 13 rfl rfl rfl ?_
      refine wp_run 1 (pc' := 42) (ls' := [.ref 0, .int 0, .int 1]) (st' := [.int 0, .ref 13]) rfl ?_
      refine wp_aald (r := 14) rfl rfl (Or.inl rfl) rfl (by decide) rfl rfl ?_
      refine wp_run 1 (pc' := 44) (ls' := [.ref 0, .int 0, .int 1]) (st' := [.int 0, .ref 14]) rfl ?_
      refine wp_putz rfl (Or.inl rfl) rfl ?_
      refine wp_run 1 (pc' := 48) (ls' := [.ref 0, .int 0, .int 1]) (st' := [.int 1]) rfl ?_
      refine wp_ret rfl ?_
      refine kk _ _ _ (fun ms2 Q2 kk2 => ?_)
      refine wp_run 3 (pc' := 3) (ls' := [.ref 74, .int 0]) (st' := [.int 1, .int 0, .int 0]) rfl ?_
      refine wp_callS (as := [.int 0, .int 0, .int 1]) (rest := []) (els := [.int 0, .int 0, .int 1]) rfl rfl rfl rfl rfl rfl rfl rfl (by omega) ?_
      refine sp_m_in0 (m := 1) rfl rfl (fun _ _ _ => ?_) (fun q => absurd rfl (q 0 (by omega)))
      show am_wp L xs _ _ _ _ 6 [.ref 74, .int 0] [.int 1] (am_S b) (am_u h 14 4 0) _
      refine wp_if_t rfl (show ¬ (1 : Int32) = 0 from by decide) ?_
      refine wp_run 7 (pc' := 26) (ls' := [.ref 74, .int 0]) (st' := [.int 0, .int (140 + (121 * 0)), .ref 74]) rfl ?_
      rw [show ((121 * 0) : Int32) = 0 from by decide]
      rw [show ((140 + 0) : Int32) = 140 from by decide]
      refine wp_callV (o := 74) (as := [.int 140, .int 0]) (rest := []) (els := [.ref 74, .int 140, .int 0, am_du]) rfl rfl rfl rfl rfl rfl rfl rfl (by omega) ?_
      refine sp_becomes (p := 140) (by omega) ?_
      rw [show (am_u h 14 4 0) 75 140 = (nI p0.length) from es2]
      show am_wp L xs _ _ _ _ 29 [.ref 74, .int 0] [.int (nI p0.length)] (am_S b) (am_u (am_u h 14 4 0) 75 140 0) _
      refine wp_if_f rfl (show ¬ ((nI p0.length) ≤ 0) from mt (nI_leI (a := p0.length) (b := 0) (by omega) (by omega)).mp (by omega)) ?_
      refine wp_run 2 (pc' := 37) (ls' := [.ref 74, .int 0]) (st' := [.int 1]) rfl ?_
      refine wp_ret rfl ?_
      exact kk2 _ _ ⟨⟨n, c, t, tp, wt, 0, s1, p0, p1, ⟨⟨H.1.1, (show (upd (h 75) 140 0) 2 = h 75 2 from (if_neg (by omega))).trans H.1.2.1, H.1.2.2⟩, ⟨H.2.1.1, (show (upd (h 75) 140 0) 3 = h 75 3 from (if_neg (by omega))).trans H.2.1.2.1, H.2.1.2.2⟩, ⟨H.2.2.1.1, (show (upd (h 75) 140 0) 0 = h 75 0 from (if_neg (by omega))).trans H.2.2.1.2.1, H.2.2.1.2.2⟩, ⟨H.2.2.2.1.1.trans (show (upd (h 75) 140 0) 4 = h 75 4 from (if_neg (by omega))).symm, H.2.2.2.1.2.trans (show (upd (h 75) 140 0) 1 = h 75 1 from (if_neg (by omega))).symm⟩, re_g5 (m2 := (upd (h 75) 140 0)) H.2.2.2.2.1 (fun i h1 h2 => (if_neg (by omega))), re_g6 (m2 := (upd (h 75) 140 0)) H.2.2.2.2.2.1 (fun i h1 h2 => (if_neg (by omega))), H.2.2.2.2.2.2.1, H.2.2.2.2.2.2.2.1, ⟨H.2.2.2.2.2.2.2.2.1.1, (show (upd (h 75) 140 0) 5 = h 75 5 from (if_neg (by omega))).trans H.2.2.2.2.2.2.2.2.1.2.1, H.2.2.2.2.2.2.2.2.1.2.2.1, re_g9 (m2 := (upd (h 75) 140 0)) H.2.2.2.2.2.2.2.2.1.2.2.1 H.2.2.2.2.2.2.2.2.1.2.2.2 (fun i h1 h2 => (if_neg (by omega)))⟩, ⟨H.2.2.2.2.2.2.2.2.2.1.1, (show (upd (h 75) 140 0) 6 = h 75 6 from (if_neg (by omega))).trans H.2.2.2.2.2.2.2.2.2.1.2.1, H.2.2.2.2.2.2.2.2.2.1.2.2.1, re_g10 (m2 := (upd (h 75) 140 0)) H.2.2.2.2.2.2.2.2.2.1.2.2.1 H.2.2.2.2.2.2.2.2.2.1.2.2.2 (fun i h1 h2 => (if_neg (by omega)))⟩, ⟨⟨H.2.2.2.2.2.2.2.2.2.2.1.1.1, H.2.2.2.2.2.2.2.2.2.2.1.1.2.1, H.2.2.2.2.2.2.2.2.2.2.1.1.2.2.1, H.2.2.2.2.2.2.2.2.2.2.1.1.2.2.2.1, H.2.2.2.2.2.2.2.2.2.2.1.1.2.2.2.2.1, rfl, Or.inl rfl⟩, Or.inl ⟨rfl, rfl⟩⟩, re_law_m (m2 := (upd (h 75) 140 0)) H.2.2.2.2.2.2.2.2.2.2.2 (fun i h1 h2 => (if_neg (by omega)))⟩⟩, re_im_s hI, hE, hS0, hS1, hS2, hS3, hT⟩
  · skip
    intro ex1
    subst ex1
    show am_wp L xs _ _ _ _ 4 [.ref 0, .int 1, am_du] [.int 1] (am_S b) h _
    refine wp_if_t rfl (show ¬ (1 : Int32) = 0 from by decide) ?_
    rcases H.2.2.2.2.2.2.2.2.2.2.2.2 with ⟨es1, es2⟩ | ⟨es1, es2, es3, es4⟩
    · skip
      refine wp_run 1 (pc' := 14) (ls' := [.ref 0, .int 1, am_du]) (st' := [.ref 0]) rfl ?_
      refine wp_getr 1 rfl rfl rfl ?_
      refine wp_getr 13 rfl rfl rfl ?_
      refine wp_run 1 (pc' := 21) (ls' := [.ref 0, .int 1, am_du]) (st' := [.int 1, .ref 13]) rfl ?_
      refine wp_aald (r := 19) rfl rfl (Or.inl rfl) rfl (by decide) rfl rfl ?_
      refine wp_geti (a := 4) 0 (H.2.2.2.2.2.2.2.2.2.2.2.1.2.2.2.2.2.1.trans es1) rfl rfl rfl ?_
      refine wp_if_t rfl (show (0 : Int32) = 0 from by decide) ?_
      refine wp_run 3 (pc' := 35) (ls' := [.ref 0, .int 1, .int 0]) (st' := [.ref 0]) rfl ?_
      refine wp_getr 1 rfl rfl rfl ?_
      refine wp_getr 13 rfl rfl rfl ?_
      refine wp_run 1 (pc' := 42) (ls' := [.ref 0, .int 1, .int 0]) (st' := [.int 1, .ref 13]) rfl ?_
      refine wp_aald (r := 19) rfl rfl (Or.inl rfl) rfl (by decide) rfl rfl ?_
      refine wp_run 1 (pc' := 44) (ls' := [.ref 0, .int 1, .int 0]) (st' := [.int 0, .ref 19]) rfl ?_
      refine wp_putz rfl (Or.inl rfl) rfl ?_
      refine wp_run 1 (pc' := 48) (ls' := [.ref 0, .int 1, .int 0]) (st' := [.int 0]) rfl ?_
      refine wp_ret rfl ?_
      refine kk _ _ _ (fun ms2 Q2 kk2 => ?_)
      refine wp_run 3 (pc' := 3) (ls' := [.ref 74, .int 1]) (st' := [.int 1, .int 0, .int 1]) rfl ?_
      refine wp_callS (as := [.int 1, .int 0, .int 1]) (rest := []) (els := [.int 1, .int 0, .int 1]) rfl rfl rfl rfl rfl rfl rfl rfl (by omega) ?_
      refine sp_m_in0 (m := 1) rfl rfl (fun _ _ _ => ?_) (fun q => absurd rfl (q 1 (by omega)))
      show am_wp L xs _ _ _ _ 6 [.ref 74, .int 1] [.int 1] (am_S b) (am_u h 19 4 0) _
      refine wp_if_t rfl (show ¬ (1 : Int32) = 0 from by decide) ?_
      refine wp_run 7 (pc' := 26) (ls' := [.ref 74, .int 1]) (st' := [.int 0, .int (140 + (121 * 1)), .ref 74]) rfl ?_
      rw [show ((121 * 1) : Int32) = 121 from by decide]
      rw [show ((140 + 121) : Int32) = 261 from by decide]
      refine wp_callV (o := 74) (as := [.int 261, .int 0]) (rest := []) (els := [.ref 74, .int 261, .int 0, am_du]) rfl rfl rfl rfl rfl rfl rfl rfl (by omega) ?_
      refine sp_becomes (p := 261) (by omega) ?_
      rw [show (am_u h 19 4 0) 75 261 = 0 from es2]
      show am_wp L xs _ _ _ _ 29 [.ref 74, .int 1] [.int 0] (am_S b) (am_u (am_u h 19 4 0) 75 261 0) _
      refine wp_if_t rfl (show (0 : Int32) ≤ 0 from by decide) ?_
      refine wp_run 1 (pc' := 37) (ls' := [.ref 74, .int 1]) (st' := [.int 0]) rfl ?_
      refine wp_ret rfl ?_
      exact kk2 _ _ ⟨⟨n, c, t, tp, wt, s0, 0, p0, p1, ⟨⟨H.1.1, (show (upd (h 75) 261 0) 2 = h 75 2 from (if_neg (by omega))).trans H.1.2.1, H.1.2.2⟩, ⟨H.2.1.1, (show (upd (h 75) 261 0) 3 = h 75 3 from (if_neg (by omega))).trans H.2.1.2.1, H.2.1.2.2⟩, ⟨H.2.2.1.1, (show (upd (h 75) 261 0) 0 = h 75 0 from (if_neg (by omega))).trans H.2.2.1.2.1, H.2.2.1.2.2⟩, ⟨H.2.2.2.1.1.trans (show (upd (h 75) 261 0) 4 = h 75 4 from (if_neg (by omega))).symm, H.2.2.2.1.2.trans (show (upd (h 75) 261 0) 1 = h 75 1 from (if_neg (by omega))).symm⟩, re_g5 (m2 := (upd (h 75) 261 0)) H.2.2.2.2.1 (fun i h1 h2 => (if_neg (by omega))), re_g6 (m2 := (upd (h 75) 261 0)) H.2.2.2.2.2.1 (fun i h1 h2 => (if_neg (by omega))), H.2.2.2.2.2.2.1, H.2.2.2.2.2.2.2.1, ⟨H.2.2.2.2.2.2.2.2.1.1, (show (upd (h 75) 261 0) 5 = h 75 5 from (if_neg (by omega))).trans H.2.2.2.2.2.2.2.2.1.2.1, H.2.2.2.2.2.2.2.2.1.2.2.1, re_g9 (m2 := (upd (h 75) 261 0)) H.2.2.2.2.2.2.2.2.1.2.2.1 H.2.2.2.2.2.2.2.2.1.2.2.2 (fun i h1 h2 => (if_neg (by omega)))⟩, ⟨H.2.2.2.2.2.2.2.2.2.1.1, (show (upd (h 75) 261 0) 6 = h 75 6 from (if_neg (by omega))).trans H.2.2.2.2.2.2.2.2.2.1.2.1, H.2.2.2.2.2.2.2.2.2.1.2.2.1, re_g10 (m2 := (upd (h 75) 261 0)) H.2.2.2.2.2.2.2.2.2.1.2.2.1 H.2.2.2.2.2.2.2.2.2.1.2.2.2 (fun i h1 h2 => (if_neg (by omega)))⟩, re_law_m (m2 := (upd (h 75) 261 0)) H.2.2.2.2.2.2.2.2.2.2.1 (fun i h1 h2 => (if_neg (by omega))), ⟨⟨H.2.2.2.2.2.2.2.2.2.2.2.1.1, H.2.2.2.2.2.2.2.2.2.2.2.1.2.1, H.2.2.2.2.2.2.2.2.2.2.2.1.2.2.1, H.2.2.2.2.2.2.2.2.2.2.2.1.2.2.2.1, H.2.2.2.2.2.2.2.2.2.2.2.1.2.2.2.2.1, rfl, Or.inl rfl⟩, Or.inl ⟨rfl, rfl⟩⟩⟩⟩, re_im_s hI, hE, hS0, hS1, hS2, hS3, hT⟩
    · skip
      have el : p1.length ≤ 60 := H.2.2.2.2.2.2.2.2.2.2.2.1.2.2.1
      refine wp_run 1 (pc' := 14) (ls' := [.ref 0, .int 1, am_du]) (st' := [.ref 0]) rfl ?_
      refine wp_getr 1 rfl rfl rfl ?_
      refine wp_getr 13 rfl rfl rfl ?_
      refine wp_run 1 (pc' := 21) (ls' := [.ref 0, .int 1, am_du]) (st' := [.int 1, .ref 13]) rfl ?_
      refine wp_aald (r := 19) rfl rfl (Or.inl rfl) rfl (by decide) rfl rfl ?_
      refine wp_geti (a := 4) 1 (H.2.2.2.2.2.2.2.2.2.2.2.1.2.2.2.2.2.1.trans es1) rfl rfl rfl ?_
      refine wp_if_f rfl (show ¬ ((1 : Int32) = 0) from by decide) ?_
      refine wp_run 4 (pc' := 35) (ls' := [.ref 0, .int 1, .int 1]) (st' := [.ref 0]) rfl ?_
      refine wp_getr 1 rfl rfl rfl ?_
      refine wp_getr 13 rfl rfl rfl ?_
      refine wp_run 1 (pc' := 42) (ls' := [.ref 0, .int 1, .int 1]) (st' := [.int 1, .ref 13]) rfl ?_
      refine wp_aald (r := 19) rfl rfl (Or.inl rfl) rfl (by decide) rfl rfl ?_
      refine wp_run 1 (pc' := 44) (ls' := [.ref 0, .int 1, .int 1]) (st' := [.int 0, .ref 19]) rfl ?_
      refine wp_putz rfl (Or.inl rfl) rfl ?_
      refine wp_run 1 (pc' := 48) (ls' := [.ref 0, .int 1, .int 1]) (st' := [.int 1]) rfl ?_
      refine wp_ret rfl ?_
      refine kk _ _ _ (fun ms2 Q2 kk2 => ?_)
      refine wp_run 3 (pc' := 3) (ls' := [.ref 74, .int 1]) (st' := [.int 1, .int 0, .int 1]) rfl ?_
      refine wp_callS (as := [.int 1, .int 0, .int 1]) (rest := []) (els := [.int 1, .int 0, .int 1]) rfl rfl rfl rfl rfl rfl rfl rfl (by omega) ?_
      refine sp_m_in0 (m := 1) rfl rfl (fun _ _ _ => ?_) (fun q => absurd rfl (q 1 (by omega)))
      show am_wp L xs _ _ _ _ 6 [.ref 74, .int 1] [.int 1] (am_S b) (am_u h 19 4 0) _
      refine wp_if_t rfl (show ¬ (1 : Int32) = 0 from by decide) ?_
      refine wp_run 7 (pc' := 26) (ls' := [.ref 74, .int 1]) (st' := [.int 0, .int (140 + (121 * 1)), .ref 74]) rfl ?_
      rw [show ((121 * 1) : Int32) = 121 from by decide]
      rw [show ((140 + 121) : Int32) = 261 from by decide]
      refine wp_callV (o := 74) (as := [.int 261, .int 0]) (rest := []) (els := [.ref 74, .int 261, .int 0, am_du]) rfl rfl rfl rfl rfl rfl rfl rfl (by omega) ?_
      refine sp_becomes (p := 261) (by omega) ?_
      rw [show (am_u h 19 4 0) 75 261 = (nI p1.length) from es2]
      show am_wp L xs _ _ _ _ 29 [.ref 74, .int 1] [.int (nI p1.length)] (am_S b) (am_u (am_u h 19 4 0) 75 261 0) _
      refine wp_if_f rfl (show ¬ ((nI p1.length) ≤ 0) from mt (nI_leI (a := p1.length) (b := 0) (by omega) (by omega)).mp (by omega)) ?_
      refine wp_run 2 (pc' := 37) (ls' := [.ref 74, .int 1]) (st' := [.int 1]) rfl ?_
      refine wp_ret rfl ?_
      exact kk2 _ _ ⟨⟨n, c, t, tp, wt, s0, 0, p0, p1, ⟨⟨H.1.1, (show (upd (h 75) 261 0) 2 = h 75 2 from (if_neg (by omega))).trans H.1.2.1, H.1.2.2⟩, ⟨H.2.1.1, (show (upd (h 75) 261 0) 3 = h 75 3 from (if_neg (by omega))).trans H.2.1.2.1, H.2.1.2.2⟩, ⟨H.2.2.1.1, (show (upd (h 75) 261 0) 0 = h 75 0 from (if_neg (by omega))).trans H.2.2.1.2.1, H.2.2.1.2.2⟩, ⟨H.2.2.2.1.1.trans (show (upd (h 75) 261 0) 4 = h 75 4 from (if_neg (by omega))).symm, H.2.2.2.1.2.trans (show (upd (h 75) 261 0) 1 = h 75 1 from (if_neg (by omega))).symm⟩, re_g5 (m2 := (upd (h 75) 261 0)) H.2.2.2.2.1 (fun i h1 h2 => (if_neg (by omega))), re_g6 (m2 := (upd (h 75) 261 0)) H.2.2.2.2.2.1 (fun i h1 h2 => (if_neg (by omega))), H.2.2.2.2.2.2.1, H.2.2.2.2.2.2.2.1, ⟨H.2.2.2.2.2.2.2.2.1.1, (show (upd (h 75) 261 0) 5 = h 75 5 from (if_neg (by omega))).trans H.2.2.2.2.2.2.2.2.1.2.1, H.2.2.2.2.2.2.2.2.1.2.2.1, re_g9 (m2 := (upd (h 75) 261 0)) H.2.2.2.2.2.2.2.2.1.2.2.1 H.2.2.2.2.2.2.2.2.1.2.2.2 (fun i h1 h2 => (if_neg (by omega)))⟩, ⟨H.2.2.2.2.2.2.2.2.2.1.1, (show (upd (h 75) 261 0) 6 = h 75 6 from (if_neg (by omega))).trans H.2.2.2.2.2.2.2.2.2.1.2.1, H.2.2.2.2.2.2.2.2.2.1.2.2.1, re_g10 (m2 := (upd (h 75) 261 0)) H.2.2.2.2.2.2.2.2.2.1.2.2.1 H.2.2.2.2.2.2.2.2.2.1.2.2.2 (fun i h1 h2 => (if_neg (by omega)))⟩, re_law_m (m2 := (upd (h 75) 261 0)) H.2.2.2.2.2.2.2.2.2.2.1 (fun i h1 h2 => (if_neg (by omega))), ⟨⟨H.2.2.2.2.2.2.2.2.2.2.2.1.1, H.2.2.2.2.2.2.2.2.2.2.2.1.2.1, H.2.2.2.2.2.2.2.2.2.2.2.1.2.2.1, H.2.2.2.2.2.2.2.2.2.2.2.1.2.2.2.1, H.2.2.2.2.2.2.2.2.2.2.2.1.2.2.2.2.1, rfl, Or.inl rfl⟩, Or.inl ⟨rfl, rfl⟩⟩⟩⟩, re_im_s hI, hE, hS0, hS1, hS2, hS3, hT⟩
  · skip
    intro hnx1
    show am_wp L xs _ _ _ _ 4 [.ref 0, .int x1, am_du] [.int 0] (am_S b) h _
    refine wp_if_f rfl (show ¬ (¬ (0 : Int32) = 0) from by decide) ?_
    refine wp_run 2 (pc' := 9) (ls' := [.ref 0, .int x1, am_du]) (st' := [.int 1, .ref 0]) rfl ?_
    refine wp_callV (o := 0) (as := [.int 1]) (rest := []) (els := [.ref 0, .int 1]) rfl rfl rfl rfl rfl rfl rfl rfl (by omega) ?_
    refine sp_refuse1 (by omega) ?_
    show am_wp L xs _ _ _ _ 12 [.ref 0, .int x1, am_du] [.int (-1000000001)] (am_S b) (am_u h 73 1 (h 73 1 + 1)) _
    refine wp_ret rfl ?_
    refine kk _ _ _ (fun ms2 Q2 kk2 => ?_)
    refine wp_run 3 (pc' := 3) (ls' := [.ref 74, .int x1]) (st' := [.int 1, .int 0, .int x1]) rfl ?_
    refine wp_callS (as := [.int x1, .int 0, .int 1]) (rest := []) (els := [.int x1, .int 0, .int 1]) rfl rfl rfl rfl rfl rfl rfl rfl (by omega) ?_
    refine sp_m_in0 (m := 1) rfl rfl (fun k hk e => absurd e (hnx1 k hk)) (fun _ => ?_)
    show am_wp L xs _ _ _ _ 6 [.ref 74, .int x1] [.int 0] (am_S b) (am_u h 73 1 (h 73 1 + 1)) _
    refine wp_if_f rfl (show ¬ (¬ (0 : Int32) = 0) from by decide) ?_
    refine wp_run 2 (pc' := 12) (ls' := [.ref 74, .int x1]) (st' := [.int (-1000000001), .ref 74]) rfl ?_
    refine wp_callV (o := 74) (as := [.int (-1000000001)]) (rest := []) (els := [.ref 74, .int (-1000000001)]) rfl rfl rfl rfl rfl rfl rfl rfl (by omega) ?_
    refine sp_error1 ?_
    show am_wp L xs _ _ _ _ 15 [.ref 74, .int x1] [.int (-1000000001)] (am_S b) (am_u (am_u h 73 1 (h 73 1 + 1)) 77 1 ((am_u h 73 1 (h 73 1 + 1)) 77 1 + 1)) _
    refine wp_ret rfl ?_
    exact kk2 _ _ (re_err1 hR)
theorem op_told {L : Nat} {xs : Nat → Int32} {d ms b N : Nat} {h : am_HI} {Q : am_Q} {x1 : Int32} (hd : 30 ≤ d) (hR : am_Rel N h) (hN : N < 100000)
    (kk : ∀ v b1 h1, (∀ ms2 Q2, (∀ b2 h2, am_Rel (N + 1) h2 → Q2 (some (.int v)) (am_S b2) h2) → am_wp L xs d 0 ms2 223 0 [.ref 74, .int x1] [] (am_S b1) h1 Q2) → Q (some (.int v)) (am_S b1) h1) :
    am_wp L xs d 0 ms 128 0 [.ref 0, .int x1] [] (am_S b) h Q := by
  obtain ⟨⟨n, c, t, tp, wt, s0, s1, p0, p1, H⟩, hI, hE, hS0, hS1, hS2, hS3, hT⟩ := id hR
  have hn := H.1.1
  have hm2 := H.1.2.1
  have hn7 := H.1.2.2
  have hc := H.2.1.1
  have hm3 := H.2.1.2.1
  have hc7 := H.2.1.2.2
  have ht := H.2.2.1.1
  have hm0 := H.2.2.1.2.1
  have ht9 := H.2.2.1.2.2
  have HS := re_hs H
  have HM := re_ms H
  refine wp_run 3 (pc' := 4) (ls' := [.ref 0, .int x1]) (st' := [.int 6, .int 1, .int x1]) rfl ?_
  refine wp_callS (as := [.int x1, .int 1, .int 6]) (rest := []) (els := [.int x1, .int 1, .int 6]) rfl rfl rfl rfl rfl rfl rfl rfl (by omega) ?_
  refine sp_x_within16 ?_ ?_
  · skip
    intro k1 hk1 hk6 ek1
    subst ek1
    show am_wp L xs _ _ _ _ 7 [.ref 0, .int (nI k1)] [.int 1] (am_S b) h _
    refine wp_if_t rfl (show ¬ (1 : Int32) = 0 from by decide) ?_
    refine wp_run 1 (pc' := 17) (ls' := [.ref 0, .int (nI k1)]) (st' := [.ref 0]) rfl ?_
    refine wp_getr 73 rfl rfl rfl ?_
    refine wp_run 1 (pc' := 21) (ls' := [.ref 0, .int (nI k1)]) (st' := [.int (nI k1), .ref 73]) rfl ?_
    refine wp_ald (i := k1) (h 73 k1) rfl rfl rfl rfl (by omega) rfl ?_
    refine wp_ret rfl ?_
    refine kk _ _ _ (fun ms2 Q2 kk2 => ?_)
    refine wp_run 3 (pc' := 4) (ls' := [.ref 74, .int (nI k1)]) (st' := [.int 6, .int 1, .int (nI k1)]) rfl ?_
    refine wp_callS (as := [.int (nI k1), .int 1, .int 6]) (rest := []) (els := [.int (nI k1), .int 1, .int 6]) rfl rfl rfl rfl rfl rfl rfl rfl (by omega) ?_
    refine sp_m_in16 (fun _ _ _ _ => ?_) (fun q => absurd rfl (q k1 (by omega) (by omega)))
    show am_wp L xs _ _ _ _ 7 [.ref 74, .int (nI k1)] [.int 1] (am_S b) h _
    refine wp_if_f rfl (show ¬ ((1 : Int32) = 0) from by decide) ?_
    refine wp_run 1 (pc' := 11) (ls' := [.ref 74, .int (nI k1)]) (st' := [.ref 74]) rfl ?_
    refine wp_getr 77 rfl rfl rfl ?_
    refine wp_run 1 (pc' := 15) (ls' := [.ref 74, .int (nI k1)]) (st' := [.int (nI k1), .ref 77]) rfl ?_
    refine wp_ald (i := k1) (h 77 k1) rfl rfl rfl rfl (by omega) rfl ?_
    refine wp_run 1 (pc' := 25) (ls' := [.ref 74, .int (nI k1)]) (st' := [.int (h 77 k1)]) rfl ?_
    refine wp_ret rfl ?_
    rw [show ((h 77 k1) : Int32) = (h 73 k1) from (hE k1 (by omega) (by omega)).symm]
    exact kk2 _ _ ⟨⟨n, c, t, tp, wt, s0, s1, p0, p1, H⟩, re_im_s hI, hE, hS0, hS1, hS2, hS3, hT⟩
  · skip
    intro hn16
    show am_wp L xs _ _ _ _ 7 [.ref 0, .int x1] [.int 0] (am_S b) h _
    refine wp_if_f rfl (show ¬ (¬ (0 : Int32) = 0) from by decide) ?_
    refine wp_run 2 (pc' := 12) (ls' := [.ref 0, .int x1]) (st' := [.int 1, .ref 0]) rfl ?_
    refine wp_callV (o := 0) (as := [.int 1]) (rest := []) (els := [.ref 0, .int 1]) rfl rfl rfl rfl rfl rfl rfl rfl (by omega) ?_
    refine sp_refuse1 (by omega) ?_
    show am_wp L xs _ _ _ _ 15 [.ref 0, .int x1] [.int (-1000000001)] (am_S b) (am_u h 73 1 (h 73 1 + 1)) _
    refine wp_ret rfl ?_
    refine kk _ _ _ (fun ms2 Q2 kk2 => ?_)
    refine wp_run 3 (pc' := 4) (ls' := [.ref 74, .int x1]) (st' := [.int 6, .int 1, .int x1]) rfl ?_
    refine wp_callS (as := [.int x1, .int 1, .int 6]) (rest := []) (els := [.int x1, .int 1, .int 6]) rfl rfl rfl rfl rfl rfl rfl rfl (by omega) ?_
    refine sp_m_in16 (fun k h1 h2 e => absurd e (hn16 k h1 h2)) (fun _ => ?_)
    show am_wp L xs _ _ _ _ 7 [.ref 74, .int x1] [.int 0] (am_S b) (am_u h 73 1 (h 73 1 + 1)) _
    refine wp_if_t rfl (show (0 : Int32) = 0 from by decide) ?_
    refine wp_run 2 (pc' := 22) (ls' := [.ref 74, .int x1]) (st' := [.int (-1000000001), .ref 74]) rfl ?_
    refine wp_callV (o := 74) (as := [.int (-1000000001)]) (rest := []) (els := [.ref 74, .int (-1000000001)]) rfl rfl rfl rfl rfl rfl rfl rfl (by omega) ?_
    refine sp_error1 ?_
    show am_wp L xs _ _ _ _ 25 [.ref 74, .int x1] [.int (-1000000001)] (am_S b) (am_u (am_u h 73 1 (h 73 1 + 1)) 77 1 ((am_u h 73 1 (h 73 1 + 1)) 77 1 + 1)) _
    refine wp_ret rfl ?_
    exact kk2 _ _ (re_err1 hR)
theorem re_w10 {r m : Nat → Int32} {l : Nat} {v w : Int32} (hl : l ≤ 24) (hl2 : l < 24) (h : ∀ i, i < l → r i = m (116 + i)) : ∀ i, i < l + 1 → upd r l v i = upd (upd m (116 + l) v) 6 w (116 + i) := fun i hi => by
  have e6 : upd (upd m (116 + l) v) 6 w (116 + i) = upd m (116 + l) v (116 + i) := if_neg (by omega)
  rw [e6]
  unfold upd
  by_cases e : i = l
  · rw [if_pos e, if_pos (by omega)]
  · rw [if_neg e, if_neg (by omega)]
    exact h i (by omega)
theorem op_tell {L : Nat} {xs : Nat → Int32} {d ms b N : Nat} {h : am_HI} {Q : am_Q} {x1 : Int32} (hd : 30 ≤ d) (hR : am_Rel N h) (hN : N < 100000)
    (kk : ∀ v b1 h1, (∀ ms2 Q2, (∀ b2 h2, am_Rel (N + 1) h2 → Q2 (some (.int v)) (am_S b2) h2) → am_wp L xs d 0 ms2 220 0 [.ref 74, .int x1] [] (am_S b1) h1 Q2) → Q (some (.int v)) (am_S b1) h1) :
    am_wp L xs d 0 ms 125 0 [.ref 0, .int x1] [] (am_S b) h Q := by
  obtain ⟨⟨n, c, t, tp, wt, s0, s1, p0, p1, H⟩, hI, hE, hS0, hS1, hS2, hS3, hT⟩ := id hR
  have hn := H.1.1
  have hm2 := H.1.2.1
  have hn7 := H.1.2.2
  have hc := H.2.1.1
  have hm3 := H.2.1.2.1
  have hc7 := H.2.1.2.2
  have ht := H.2.2.1.1
  have hm0 := H.2.2.1.2.1
  have ht9 := H.2.2.1.2.2
  have HS := re_hs H
  have HM := re_ms H
  have hwt : wt ≤ 24 := H.2.2.2.2.2.2.2.2.2.1.2.2.1
  refine wp_run 1 (pc' := 1) (ls' := [.ref 0, .int x1]) (st' := [.ref 0]) rfl ?_
  refine wp_getr 1 rfl rfl rfl ?_
  refine wp_getr 11 rfl rfl rfl ?_
  refine wp_geti (a := 1) (nI wt) H.2.2.2.2.2.2.2.2.2.1.1 rfl rfl rfl ?_
  refine wp_run 1 (pc' := 12) (ls' := [.ref 0, .int x1]) (st' := [.int 24, .int (nI wt)]) rfl ?_
  refine wp_icmp rfl (fun (cq12 : (nI wt) < 24) => ?_) (fun (cq12 : ¬ ((nI wt) < 24)) => ?_)
  · skip
    have cq12n : wt < 24 := (nI_ltI (a := wt) (b := 24) (by omega) (by omega)).mp cq12
    refine wp_run 1 (pc' := 22) (ls' := [.ref 0, .int x1]) (st' := [.ref 0]) rfl ?_
    refine wp_getr 1 rfl rfl rfl ?_
    refine wp_getr 11 rfl rfl rfl ?_
    refine wp_run 1 (pc' := 29) (ls' := [.ref 0, .int x1]) (st' := [.int x1, .ref 11]) rfl ?_
    refine wp_callV (o := 11) (as := [.int x1]) (rest := []) (els := [.ref 11, .int x1]) rfl rfl rfl rfl rfl rfl rfl rfl (by omega) ?_
    refine sp_push (o := 11) (cap := 24) (n := wt) rfl rfl rfl rfl H.2.2.2.2.2.2.2.2.2.1.1 (by omega) ?_
    show am_wp L xs _ _ _ _ 32 [.ref 0, .int x1] [] (am_S b) (am_u (am_u h 12 wt x1) 11 1 (nI (wt + 1))) _
    refine wp_run 1 (pc' := 33) (ls' := [.ref 0, .int x1]) (st' := [.ref 0]) rfl ?_
    refine wp_getr 1 rfl rfl rfl ?_
    refine wp_getr 11 rfl rfl rfl ?_
    refine wp_geti (a := 1) (nI (wt + 1)) (am_u_at _ _ _ _) rfl rfl rfl ?_
    refine wp_ret rfl ?_
    refine kk _ _ _ (fun ms2 Q2 kk2 => ?_)
    refine wp_run 1 (pc' := 1) (ls' := [.ref 74, .int x1]) (st' := [.ref 74]) rfl ?_
    refine wp_getr 75 rfl rfl rfl ?_
    refine wp_run 1 (pc' := 6) (ls' := [.ref 74, .int x1]) (st' := [.int 6, .ref 75]) rfl ?_
    refine wp_ald (i := 6) (nI wt) H.2.2.2.2.2.2.2.2.2.1.2.1 rfl rfl rfl (by decide) rfl ?_
    refine wp_run 1 (pc' := 9) (ls' := [.ref 74, .int x1]) (st' := [.int 24, .int (nI wt)]) rfl ?_
    refine wp_icmp_t rfl (show ¬ (nI wt) = 24 from mt (nI_eq (a := wt) (b := 24) (by omega) (by omega)).mp (by omega)) ?_
    refine wp_run 1 (pc' := 20) (ls' := [.ref 74, .int x1]) (st' := [.ref 74]) rfl ?_
    refine wp_getr 75 rfl rfl rfl ?_
    refine wp_run 2 (pc' := 26) (ls' := [.ref 74, .int x1]) (st' := [.ref 74, .int 116, .ref 75]) rfl ?_
    refine wp_getr 75 rfl rfl rfl ?_
    refine wp_run 1 (pc' := 31) (ls' := [.ref 74, .int x1]) (st' := [.int 6, .ref 75, .int 116, .ref 75]) rfl ?_
    refine wp_ald (i := 6) (nI wt) H.2.2.2.2.2.2.2.2.2.1.2.1 rfl rfl rfl (by decide) rfl ?_
    refine wp_run 2 (pc' := 34) (ls' := [.ref 74, .int x1]) (st' := [.int x1, .int (116 + (nI wt)), .ref 75]) rfl ?_
    rw [show ((116 + (nI wt)) : Int32) = (nI (116 + wt)) from nI_add 116 wt]
    refine wp_ast rfl rfl rfl (by omega) rfl ?_
    refine wp_run 1 (pc' := 36) (ls' := [.ref 74, .int x1]) (st' := [.ref 74]) rfl ?_
    refine wp_getr 75 rfl rfl rfl ?_
    refine wp_run 2 (pc' := 42) (ls' := [.ref 74, .int x1]) (st' := [.int 6, .ref 75, .int 6, .ref 75]) rfl ?_
    refine wp_ald (i := 6) (nI wt) (show upd (h 75) (116 + wt) x1 6 = nI wt from (if_neg (by omega)).trans H.2.2.2.2.2.2.2.2.2.1.2.1) rfl rfl rfl (by decide) rfl ?_
    refine wp_run 2 (pc' := 45) (ls' := [.ref 74, .int x1]) (st' := [.int ((nI wt) + 1), .int 6, .ref 75]) rfl ?_
    rw [show (((nI wt) + 1) : Int32) = (nI (wt + 1)) from nI_add wt 1]
    refine wp_ast rfl rfl rfl (by decide) rfl ?_
    refine wp_run 1 (pc' := 47) (ls' := [.ref 74, .int x1]) (st' := [.ref 74]) rfl ?_
    refine wp_getr 75 rfl rfl rfl ?_
    refine wp_run 1 (pc' := 52) (ls' := [.ref 74, .int x1]) (st' := [.int 6, .ref 75]) rfl ?_
    refine wp_ald (i := 6) (nI (wt + 1)) (am_u_at _ _ _ _) rfl rfl rfl (by decide) rfl ?_
    refine wp_ret rfl ?_
    exact kk2 _ _ ⟨⟨n, c, t, tp, (wt + 1), s0, s1, p0, p1, ⟨⟨H.1.1, (show (upd (upd (h 75) (116 + wt) x1) 6 (nI (wt + 1))) 2 = h 75 2 from (if_neg (by omega)).trans (if_neg (by omega))).trans H.1.2.1, H.1.2.2⟩, ⟨H.2.1.1, (show (upd (upd (h 75) (116 + wt) x1) 6 (nI (wt + 1))) 3 = h 75 3 from (if_neg (by omega)).trans (if_neg (by omega))).trans H.2.1.2.1, H.2.1.2.2⟩, ⟨H.2.2.1.1, (show (upd (upd (h 75) (116 + wt) x1) 6 (nI (wt + 1))) 0 = h 75 0 from (if_neg (by omega)).trans (if_neg (by omega))).trans H.2.2.1.2.1, H.2.2.1.2.2⟩, ⟨H.2.2.2.1.1.trans (show (upd (upd (h 75) (116 + wt) x1) 6 (nI (wt + 1))) 4 = h 75 4 from (if_neg (by omega)).trans (if_neg (by omega))).symm, H.2.2.2.1.2.trans (show (upd (upd (h 75) (116 + wt) x1) 6 (nI (wt + 1))) 1 = h 75 1 from (if_neg (by omega)).trans (if_neg (by omega))).symm⟩, re_g5 (m2 := (upd (upd (h 75) (116 + wt) x1) 6 (nI (wt + 1)))) H.2.2.2.2.1 (fun i h1 h2 => (if_neg (by omega)).trans (if_neg (by omega))), re_g6 (m2 := (upd (upd (h 75) (116 + wt) x1) 6 (nI (wt + 1)))) H.2.2.2.2.2.1 (fun i h1 h2 => (if_neg (by omega)).trans (if_neg (by omega))), H.2.2.2.2.2.2.1, H.2.2.2.2.2.2.2.1, ⟨H.2.2.2.2.2.2.2.2.1.1, (show (upd (upd (h 75) (116 + wt) x1) 6 (nI (wt + 1))) 5 = h 75 5 from (if_neg (by omega)).trans (if_neg (by omega))).trans H.2.2.2.2.2.2.2.2.1.2.1, H.2.2.2.2.2.2.2.2.1.2.2.1, re_g9 (m2 := (upd (upd (h 75) (116 + wt) x1) 6 (nI (wt + 1)))) H.2.2.2.2.2.2.2.2.1.2.2.1 H.2.2.2.2.2.2.2.2.1.2.2.2 (fun i h1 h2 => (if_neg (by omega)).trans (if_neg (by omega)))⟩, ⟨rfl, rfl, by omega, re_w10 H.2.2.2.2.2.2.2.2.2.1.2.2.1 (by omega) H.2.2.2.2.2.2.2.2.2.1.2.2.2⟩, re_law_m (m2 := (upd (upd (h 75) (116 + wt) x1) 6 (nI (wt + 1)))) H.2.2.2.2.2.2.2.2.2.2.1 (fun i h1 h2 => (if_neg (by omega)).trans (if_neg (by omega))), re_law_m (m2 := (upd (upd (h 75) (116 + wt) x1) 6 (nI (wt + 1)))) H.2.2.2.2.2.2.2.2.2.2.2 (fun i h1 h2 => (if_neg (by omega)).trans (if_neg (by omega)))⟩⟩, re_im_s hI, hE, hS0, hS1, hS2, hS3, hT⟩
  · skip
    have cq12n : ¬ (wt < 24) := fun q => cq12 ((nI_ltI (a := wt) (b := 24) (by omega) (by omega)).mpr q)
    refine wp_run 2 (pc' := 17) (ls' := [.ref 0, .int x1]) (st' := [.int 4, .ref 0]) rfl ?_
    refine wp_callV (o := 0) (as := [.int 4]) (rest := []) (els := [.ref 0, .int 4]) rfl rfl rfl rfl rfl rfl rfl rfl (by omega) ?_
    refine sp_refuse4 (by omega) ?_
    show am_wp L xs _ _ _ _ 20 [.ref 0, .int x1] [.int (-1000000004)] (am_S b) (am_u h 73 4 (h 73 4 + 1)) _
    refine wp_ret rfl ?_
    refine kk _ _ _ (fun ms2 Q2 kk2 => ?_)
    refine wp_run 1 (pc' := 1) (ls' := [.ref 74, .int x1]) (st' := [.ref 74]) rfl ?_
    refine wp_getr 75 rfl rfl rfl ?_
    refine wp_run 1 (pc' := 6) (ls' := [.ref 74, .int x1]) (st' := [.int 6, .ref 75]) rfl ?_
    refine wp_ald (i := 6) (nI wt) H.2.2.2.2.2.2.2.2.2.1.2.1 rfl rfl rfl (by decide) rfl ?_
    refine wp_run 1 (pc' := 9) (ls' := [.ref 74, .int x1]) (st' := [.int 24, .int (nI wt)]) rfl ?_
    refine wp_icmp_f rfl (show ¬ (¬ (nI wt) = 24) from (fun q => q ((nI_eq (a := wt) (b := 24) (by omega) (by omega)).mpr (by omega)))) ?_
    refine wp_run 2 (pc' := 15) (ls' := [.ref 74, .int x1]) (st' := [.int (-1000000004), .ref 74]) rfl ?_
    refine wp_callV (o := 74) (as := [.int (-1000000004)]) (rest := []) (els := [.ref 74, .int (-1000000004)]) rfl rfl rfl rfl rfl rfl rfl rfl (by omega) ?_
    refine sp_error4 ?_
    show am_wp L xs _ _ _ _ 18 [.ref 74, .int x1] [.int (-1000000004)] (am_S b) (am_u (am_u h 73 4 (h 73 4 + 1)) 77 4 ((am_u h 73 4 (h 73 4 + 1)) 77 4 + 1)) _
    refine wp_ret rfl ?_
    exact kk2 _ _ (re_err4 hR)
