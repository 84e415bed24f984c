/-! calls tied: check, left -/
theorem lp_check {L : Nat} {xs : Nat → Int32} {d ms b : Nat} {h : am_HI} {Q : am_Q} {n c t : Nat} {s0 s1 : Int32} {p0 p1 : List Int32} (HS : am_hs h n c t s0 s1 p0 p1) {wt : Nat} (hwt : wt ≤ 24) (hd : 4 ≤ d) (kt : ∀ i, i < wt → (∀ q, q < i → (q < c ∧ h 12 q = h 8 q)) → ¬ (i < c ∧ h 12 i = h 8 i) → Q (some (.int (nI (1 + i)))) (am_S b) (am_u h 11 1 0)) (kf : (∀ q, q < wt → (q < c ∧ h 12 q = h 8 q)) → Q (some (.int 0)) (am_S b) (am_u h 11 1 0)) :
    ∀ (m i : Nat) (hx : ∀ q, q < i → (q < c ∧ h 12 q = h 8 q)), i + m = wt → am_wp L xs d 0 ms 126 24 [.ref 0, .int (nI wt), .int (nI i)] [] (am_S b) (am_u h 11 1 0) Q := by
  have hc7 := HS.2.2.2.2.1
  intro m
  induction m with
  | zero =>
    intro i hx hi
    refine wp_run 2 (pc' := 26) (ls' := [.ref 0, .int (nI wt), .int (nI i)]) (st' := [.int (nI wt), .int (nI i)]) rfl ?_
    refine wp_icmp_t rfl (show (nI wt) ≤ (nI i) from (nI_leI (a := wt) (b := i) (by omega) (by omega)).mpr (by omega)) ?_
    refine wp_run 1 (pc' := 75) (ls' := [.ref 0, .int (nI wt), .int (nI i)]) (st' := [.int 0]) rfl ?_
    refine wp_ret rfl ?_
    have e : i = wt := by omega
    subst e
    exact kf hx
  | succ m ih =>
    intro i hx hi
    refine wp_run 2 (pc' := 26) (ls' := [.ref 0, .int (nI wt), .int (nI i)]) (st' := [.int (nI wt), .int (nI i)]) rfl ?_
    refine wp_icmp_f rfl (show ¬ ((nI wt) ≤ (nI i)) from mt (nI_leI (a := wt) (b := i) (by omega) (by omega)).mp (by omega)) ?_
    refine wp_run 1 (pc' := 30) (ls' := [.ref 0, .int (nI wt), .int (nI i)]) (st' := [.ref 0]) rfl ?_
    refine wp_getr 1 rfl rfl rfl ?_
    refine wp_run 1 (pc' := 34) (ls' := [.ref 0, .int (nI wt), .int (nI i)]) (st' := [.int (nI i), .ref 1]) rfl ?_
    refine wp_callV (o := 1) (as := [.int (nI i)]) (rest := []) (els := [.ref 1, .int (nI i)]) rfl rfl rfl rfl rfl rfl rfl rfl (by omega) ?_
    refine sp_hasCoat (h := (am_u h 11 1 0)) HS.2.1 hc7 (by omega) ?_ ?_
    · skip
      intro k1 hk1 ek1
      have ek := pu_inj (by omega) (by omega) ek1
      subst ek
      show am_wp L xs _ _ _ _ 37 [.ref 0, .int (nI wt), .int (nI i)] [.int 1] (am_S b) (am_u h 11 1 0) _
      refine wp_if_f rfl (show ¬ ((1 : Int32) = 0) from by decide) ?_
      refine wp_run 1 (pc' := 41) (ls' := [.ref 0, .int (nI wt), .int (nI i)]) (st' := [.ref 0]) rfl ?_
      refine wp_getr 1 rfl rfl rfl ?_
      refine wp_getr 11 rfl rfl rfl ?_
      refine wp_getr 12 rfl rfl rfl ?_
      refine wp_run 1 (pc' := 51) (ls' := [.ref 0, .int (nI wt), .int (nI i)]) (st' := [.int (nI i), .ref 12]) rfl ?_
      refine wp_ald (i := i) (h 12 i) rfl rfl rfl rfl (by omega) rfl ?_
      refine wp_run 1 (pc' := 53) (ls' := [.ref 0, .int (nI wt), .int (nI i)]) (st' := [.ref 0, .int (h 12 i)]) rfl ?_
      refine wp_getr 1 rfl rfl rfl ?_
      refine wp_getr 8 rfl rfl rfl ?_
      refine wp_run 1 (pc' := 60) (ls' := [.ref 0, .int (nI wt), .int (nI i)]) (st' := [.int (nI i), .ref 8, .int (h 12 i)]) rfl ?_
      refine wp_ald (i := i) (h 8 i) rfl rfl rfl rfl (by omega) rfl ?_
      refine wp_icmp rfl (fun (cqv : (h 12 i) = (h 8 i)) => ?_) (fun (cqv : ¬ ((h 12 i) = (h 8 i))) => ?_)
      · skip
        refine wp_run 2 (pc' := 24) (ls' := [.ref 0, .int (nI wt), .int ((nI i) + 1)]) (st' := []) rfl ?_
        rw [show (((nI i) + 1) : Int32) = (nI (i + 1)) from nI_add i 1]
        exact ih (i + 1) (fun g hg => by rcases Nat.lt_succ_iff_lt_or_eq.mp hg with q2 | q2; exact hx g q2; rw [q2]; exact ⟨by omega, cqv⟩) (by omega)
      · skip
        refine wp_run 3 (pc' := 67) (ls' := [.ref 0, .int (nI wt), .int (nI i)]) (st' := [.int (1 + (nI i))]) rfl ?_
        rw [show ((1 + (nI i)) : Int32) = (nI (1 + i)) from nI_add 1 i]
        refine wp_ret rfl ?_
        exact kt i (by omega) hx (fun q => cqv q.2)
    · skip
      intro hno
      show am_wp L xs _ _ _ _ 37 [.ref 0, .int (nI wt), .int (nI i)] [.int 0] (am_S b) (am_u h 11 1 0) _
      refine wp_if_t rfl (show (0 : Int32) = 0 from by decide) ?_
      refine wp_run 3 (pc' := 67) (ls' := [.ref 0, .int (nI wt), .int (nI i)]) (st' := [.int (1 + (nI i))]) rfl ?_
      rw [show ((1 + (nI i)) : Int32) = (nI (1 + i)) from nI_add 1 i]
      refine wp_ret rfl ?_
      exact kt i (by omega) hx (fun q => hno i q.1 rfl)
theorem sp_check {L : Nat} {xs : Nat → Int32} {d ms b : Nat} {h : am_HI} {Q : am_Q} {n c t : Nat} {s0 s1 : Int32} {p0 p1 : List Int32} (HS : am_hs h n c t s0 s1 p0 p1) {wt : Nat} (hwt : wt ≤ 24) (hw1 : h 11 1 = nI wt) (hd : 4 ≤ d) (kt : ∀ i, i < wt → (∀ q, q < i → (q < c ∧ h 12 q = h 8 q)) → ¬ (i < c ∧ h 12 i = h 8 i) → Q (some (.int (nI (1 + i)))) (am_S b) (am_u h 11 1 0)) (kf : (∀ q, q < wt → (q < c ∧ h 12 q = h 8 q)) → Q (some (.int 0)) (am_S b) (am_u h 11 1 0)) :
    am_wp L xs d 0 ms 126 0 [.ref 0, am_du, am_du] [] (am_S b) h Q := by
  refine wp_run 1 (pc' := 1) (ls' := [.ref 0, am_du, am_du]) (st' := [.ref 0]) rfl ?_
  refine wp_getr 1 rfl rfl rfl ?_
  refine wp_getr 11 rfl rfl rfl ?_
  refine wp_geti (a := 1) (nI wt) hw1 rfl rfl rfl ?_
  refine wp_run 2 (pc' := 12) (ls' := [.ref 0, .int (nI wt), am_du]) (st' := [.ref 0]) rfl ?_
  refine wp_getr 1 rfl rfl rfl ?_
  refine wp_getr 11 rfl rfl rfl ?_
  refine wp_run 1 (pc' := 19) (ls' := [.ref 0, .int (nI wt), am_du]) (st' := [.int 0, .ref 11]) rfl ?_
  refine wp_puti rfl rfl ?_
  refine wp_run 2 (pc' := 24) (ls' := [.ref 0, .int (nI wt), .int 0]) (st' := []) rfl ?_
  exact lp_check HS hwt hd kt kf wt 0 (fun q hq => by omega) (by omega)
theorem lp_m_check {L : Nat} {xs : Nat → Int32} {d ms b : Nat} {h : am_HI} {Q : am_Q} {n c t : Nat} {s0 s1 : Int32} {p0 p1 : List Int32} (HM : am_ms h n c t s0 s1 p0 p1) {wt : Nat} (hwt : wt ≤ 24) (hd : 4 ≤ d) (kt : ∀ i, i < wt → (∀ q, q < i → (q < c ∧ h 75 (116 + q) = h 75 (35 + 3 * q + 2))) → ¬ (i < c ∧ h 75 (116 + i) = h 75 (35 + 3 * i + 2)) → Q (some (.int (nI (1 + i)))) (am_S b) (am_u h 75 6 0)) (kf : (∀ q, q < wt → (q < c ∧ h 75 (116 + q) = h 75 (35 + 3 * q + 2))) → Q (some (.int 0)) (am_S b) (am_u h 75 6 0)) :
    ∀ (m i : Nat) (hx : ∀ q, q < i → (q < c ∧ h 75 (116 + q) = h 75 (35 + 3 * q + 2))), i + m = wt → am_wp L xs d 0 ms 221 18 [.ref 74, .int (nI wt), .int (nI i)] [] (am_S b) (am_u h 75 6 0) Q := by
  have hc7 := HM.2.2.2.2.1
  intro m
  induction m with
  | zero =>
    intro i hx hi
    refine wp_run 2 (pc' := 20) (ls' := [.ref 74, .int (nI wt), .int (nI i)]) (st' := [.int (nI wt), .int (nI i)]) rfl ?_
    refine wp_icmp_t rfl (show (nI wt) ≤ (nI i) from (nI_leI (a := wt) (b := i) (by omega) (by omega)).mpr (by omega)) ?_
    refine wp_run 1 (pc' := 60) (ls' := [.ref 74, .int (nI wt), .int (nI i)]) (st' := [.int 0]) rfl ?_
    refine wp_ret rfl ?_
    have e : i = wt := by omega
    subst e
    exact kf hx
  | succ m ih =>
    intro i hx hi
    refine wp_run 2 (pc' := 20) (ls' := [.ref 74, .int (nI wt), .int (nI i)]) (st' := [.int (nI wt), .int (nI i)]) rfl ?_
    refine wp_icmp_f rfl (show ¬ ((nI wt) ≤ (nI i)) from mt (nI_leI (a := wt) (b := i) (by omega) (by omega)).mp (by omega)) ?_
    refine wp_run 2 (pc' := 25) (ls' := [.ref 74, .int (nI wt), .int (nI i)]) (st' := [.int (nI i), .ref 74]) rfl ?_
    refine wp_callV (o := 74) (as := [.int (nI i)]) (rest := []) (els := [.ref 74, .int (nI i)]) rfl rfl rfl rfl rfl rfl rfl rfl (by omega) ?_
    refine sp_m_isCoat (h := (am_u h 75 6 0)) HM.2.1 hc7 (by omega) ?_ ?_
    · skip
      intro k1 hk1 ek1
      have ek := pu_inj (by omega) (by omega) ek1
      subst ek
      show am_wp L xs _ _ _ _ 28 [.ref 74, .int (nI wt), .int (nI i)] [.int 1] (am_S b) (am_u h 75 6 0) _
      refine wp_if_f rfl (show ¬ ((1 : Int32) = 0) from by decide) ?_
      refine wp_run 1 (pc' := 32) (ls' := [.ref 74, .int (nI wt), .int (nI i)]) (st' := [.ref 74]) rfl ?_
      refine wp_getr 75 rfl rfl rfl ?_
      refine wp_run 3 (pc' := 39) (ls' := [.ref 74, .int (nI wt), .int (nI i)]) (st' := [.int (116 + (nI i)), .ref 75]) rfl ?_
      rw [show ((116 + (nI i)) : Int32) = (nI (116 + i)) from nI_add 116 i]
      refine wp_ald (i := (116 + i)) (h 75 (116 + i)) (show upd (h 75) 6 0 (116 + i) = h 75 (116 + i) from if_neg (by omega)) rfl rfl rfl (by omega) rfl ?_
      refine wp_run 3 (pc' := 43) (ls' := [.ref 74, .int (nI wt), .int (nI i)]) (st' := [.int 2, .int (nI i), .ref 74, .int (h 75 (116 + i))]) rfl ?_
      refine wp_callV (o := 74) (as := [.int (nI i), .int 2]) (rest := [.int (h 75 (116 + i))]) (els := [.ref 74, .int (nI i), .int 2]) rfl rfl rfl rfl rfl rfl rfl rfl (by omega) ?_
      refine sp_of (w := 2) (h 75 (35 + 3 * i + 2)) (show upd (h 75) 6 0 (35 + 3 * i + 2) = h 75 (35 + 3 * i + 2) from if_neg (by omega)) (by omega) (by omega) ?_
      show am_wp L xs _ _ _ _ 46 [.ref 74, .int (nI wt), .int (nI i)] [.int (h 75 (35 + 3 * i + 2)), .int (h 75 (116 + i))] (am_S b) (am_u h 75 6 0) _
      refine wp_icmp rfl (fun (cqv : (h 75 (116 + i)) = (h 75 (35 + 3 * i + 2))) => ?_) (fun (cqv : ¬ ((h 75 (116 + i)) = (h 75 (35 + 3 * i + 2)))) => ?_)
      · skip
        refine wp_run 2 (pc' := 18) (ls' := [.ref 74, .int (nI wt), .int ((nI i) + 1)]) (st' := []) rfl ?_
        rw [show (((nI i) + 1) : Int32) = (nI (i + 1)) from nI_add i 1]
        exact ih (i + 1) (fun g hg => by rcases Nat.lt_succ_iff_lt_or_eq.mp hg with q2 | q2; exact hx g q2; rw [q2]; exact ⟨by omega, cqv⟩) (by omega)
      · skip
        refine wp_run 3 (pc' := 52) (ls' := [.ref 74, .int (nI wt), .int (nI i)]) (st' := [.int (1 + (nI i))]) rfl ?_
        rw [show ((1 + (nI i)) : Int32) = (nI (1 + i)) from nI_add 1 i]
        refine wp_ret rfl ?_
        exact kt i (by omega) hx (fun q => cqv q.2)
    · skip
      intro hno
      show am_wp L xs _ _ _ _ 28 [.ref 74, .int (nI wt), .int (nI i)] [.int 0] (am_S b) (am_u h 75 6 0) _
      refine wp_if_t rfl (show (0 : Int32) = 0 from by decide) ?_
      refine wp_run 3 (pc' := 52) (ls' := [.ref 74, .int (nI wt), .int (nI i)]) (st' := [.int (1 + (nI i))]) rfl ?_
      rw [show ((1 + (nI i)) : Int32) = (nI (1 + i)) from nI_add 1 i]
      refine wp_ret rfl ?_
      exact kt i (by omega) hx (fun q => hno i q.1 rfl)
theorem sp_m_check {L : Nat} {xs : Nat → Int32} {d ms b : Nat} {h : am_HI} {Q : am_Q} {n c t : Nat} {s0 s1 : Int32} {p0 p1 : List Int32} (HM : am_ms h n c t s0 s1 p0 p1) {wt : Nat} (hwt : wt ≤ 24) (hw1 : h 75 6 = nI wt) (hd : 4 ≤ d) (kt : ∀ i, i < wt → (∀ q, q < i → (q < c ∧ h 75 (116 + q) = h 75 (35 + 3 * q + 2))) → ¬ (i < c ∧ h 75 (116 + i) = h 75 (35 + 3 * i + 2)) → Q (some (.int (nI (1 + i)))) (am_S b) (am_u h 75 6 0)) (kf : (∀ q, q < wt → (q < c ∧ h 75 (116 + q) = h 75 (35 + 3 * q + 2))) → Q (some (.int 0)) (am_S b) (am_u h 75 6 0)) :
    am_wp L xs d 0 ms 221 0 [.ref 74, am_du, am_du] [] (am_S b) h Q := by
  refine wp_run 1 (pc' := 1) (ls' := [.ref 74, am_du, am_du]) (st' := [.ref 74]) rfl ?_
  refine wp_getr 75 rfl rfl rfl ?_
  refine wp_run 1 (pc' := 6) (ls' := [.ref 74, am_du, am_du]) (st' := [.int 6, .ref 75]) rfl ?_
  refine wp_ald (i := 6) (nI wt) hw1 rfl rfl rfl (by decide) rfl ?_
  refine wp_run 2 (pc' := 9) (ls' := [.ref 74, .int (nI wt), am_du]) (st' := [.ref 74]) rfl ?_
  refine wp_getr 75 rfl rfl rfl ?_
  refine wp_run 2 (pc' := 15) (ls' := [.ref 74, .int (nI wt), am_du]) (st' := [.int 0, .int 6, .ref 75]) rfl ?_
  refine wp_ast rfl rfl rfl (by decide) rfl ?_
  refine wp_run 2 (pc' := 18) (ls' := [.ref 74, .int (nI wt), .int 0]) (st' := []) rfl ?_
  exact lp_m_check HM hwt hd kt kf wt 0 (fun q hq => by omega) (by omega)
theorem re_ok {h : am_HI} {n c t tp wt : Nat} {s0 s1 : Int32} {p0 p1 : List Int32} (H : re_H h n c t tp wt s0 s1 p0 p1) {i : Nat} (hi : i < wt) : (i < c ∧ h 12 i = h 8 i) ↔ (i < c ∧ h 75 (116 + i) = h 75 (35 + 3 * i + 2)) := by
  have hc7 := H.2.1.2.2
  refine and_congr_right (fun q => ?_)
  rw [H.2.2.2.2.2.2.2.2.2.1.2.2.2 i hi, (H.2.2.2.2.2.1 i (by omega)).2.2]
theorem op_check {L : Nat} {xs : Nat → Int32} {d ms b N : Nat} {h : am_HI} {Q : am_Q} (hd : 30 ≤ d) (hR : am_Rel N h) (hN : N < 100000)
    (kk : ∀ v b1 h1, (∀ ms2 Q2, (∀ b2 h2, am_Rel (N + 1) h2 → Q2 (some (.int v)) (am_S b2) h2) → am_wp L xs d 0 ms2 221 0 [.ref 74, am_du, am_du] [] (am_S b1) h1 Q2) → Q (some (.int v)) (am_S b1) h1) :
    am_wp L xs d 0 ms 126 0 [.ref 0, am_du, am_du] [] (am_S b) h Q := by
  obtain ⟨⟨n, c, t, tp, wt, s0, s1, p0, p1, H⟩, hI, hE, hS0, hS1, hS2, hS3, hT⟩ := id hR
  have hn := H.1.1
  have hm2 := H.1.2.1
  have hn7 := H.1.2.2
  have hc := H.2.1.1
  have hm3 := H.2.1.2.1
  have hc7 := H.2.1.2.2
  have ht := H.2.2.1.1
  have hm0 := H.2.2.1.2.1
  have ht9 := H.2.2.1.2.2
  have HS := re_hs H
  have HM := re_ms H
  have hwt : wt ≤ 24 := H.2.2.2.2.2.2.2.2.2.1.2.2.1
  have Hn : re_house n c t tp 0 s0 s1 p0 p1 (h 1) (h 2) (h 3) (h 4) (h 5) (h 6) (h 7) (h 8) (h 9) (h 10) (upd (h 11) 1 0) (h 12) (h 14) (h 15) (h 16) (h 19) (h 20) (h 21) (upd (h 75) 6 0) := by
    refine ⟨?_, ?_, ?_, ?_, ?_, ?_, ?_, ?_, ?_, ?_, ?_, ?_⟩
    · exact ⟨(show (h 1) 10 = h 1 10 from rfl).trans H.1.1, (show (upd (h 75) 6 0) 2 = h 75 2 from (if_neg (by omega))).trans H.1.2.1, H.1.2.2⟩
    · exact ⟨(show (h 1) 11 = h 1 11 from rfl).trans H.2.1.1, (show (upd (h 75) 6 0) 3 = h 75 3 from (if_neg (by omega))).trans H.2.1.2.1, H.2.1.2.2⟩
    · exact ⟨(show (h 1) 12 = h 1 12 from rfl).trans H.2.2.1.1, (show (upd (h 75) 6 0) 0 = h 75 0 from (if_neg (by omega))).trans H.2.2.1.2.1, H.2.2.1.2.2⟩
    · exact ⟨(show (h 1) 13 = h 1 13 from rfl).trans (H.2.2.2.1.1.trans (show (upd (h 75) 6 0) 4 = h 75 4 from (if_neg (by omega))).symm), (show (h 1) 14 = h 1 14 from rfl).trans (H.2.2.2.1.2.trans (show (upd (h 75) 6 0) 1 = h 75 1 from (if_neg (by omega))).symm)⟩
    · exact re_g5 (m2 := (upd (h 75) 6 0)) H.2.2.2.2.1 (fun i h1 h2 => (if_neg (by omega)))
    · exact re_g6 (m2 := (upd (h 75) 6 0)) H.2.2.2.2.2.1 (fun i h1 h2 => (if_neg (by omega)))
    · exact H.2.2.2.2.2.2.1
    · exact H.2.2.2.2.2.2.2.1
    · exact ⟨(show (h 9) 1 = h 9 1 from rfl).trans H.2.2.2.2.2.2.2.2.1.1, (show (upd (h 75) 6 0) 5 = h 75 5 from (if_neg (by omega))).trans H.2.2.2.2.2.2.2.2.1.2.1, H.2.2.2.2.2.2.2.2.1.2.2.1, re_g9 (m2 := (upd (h 75) 6 0)) H.2.2.2.2.2.2.2.2.1.2.2.1 H.2.2.2.2.2.2.2.2.1.2.2.2 (fun i h1 h2 => (if_neg (by omega)))⟩
    · exact ⟨rfl, rfl, by omega, fun i hi => absurd hi (Nat.not_lt_zero i)⟩
    · exact re_law_m (m2 := (upd (h 75) 6 0)) H.2.2.2.2.2.2.2.2.2.2.1 (fun i h1 h2 => (if_neg (by omega)))
    · exact re_law_m (m2 := (upd (h 75) 6 0)) H.2.2.2.2.2.2.2.2.2.2.2 (fun i h1 h2 => (if_neg (by omega)))
  refine sp_check HS hwt H.2.2.2.2.2.2.2.2.2.1.1 (by omega) (fun i hi hx hno => ?_) (fun hx => ?_)
  · refine kk _ _ _ (fun ms2 Q2 kk2 => ?_)
    refine sp_m_check (h := am_u h 11 1 0) HM hwt H.2.2.2.2.2.2.2.2.2.1.2.1 (by omega) (fun i2 hi2 hx2 hno2 => ?_) (fun hx2 => ?_)
    · have e : i = i2 := by
        rcases Nat.lt_trichotomy i i2 with q | q | q
        · exact absurd ((re_ok H hi).mpr (hx2 i q)) hno
        · exact q
        · exact absurd ((re_ok H hi2).mp (hx i2 q)) hno2
      subst e
      exact kk2 _ _ ⟨⟨n, c, t, tp, 0, s0, s1, p0, p1, Hn⟩, re_im_s hI, hE, hS0, hS1, hS2, hS3, hT⟩
    · exact absurd ((re_ok H hi).mpr (hx2 i hi)) hno
  · refine kk _ _ _ (fun ms2 Q2 kk2 => ?_)
    refine sp_m_check (h := am_u h 11 1 0) HM hwt H.2.2.2.2.2.2.2.2.2.1.2.1 (by omega) (fun i2 hi2 hx2 hno2 => ?_) (fun hx2 => ?_)
    · exact absurd ((re_ok H hi2).mp (hx i2 hi2)) hno2
    · exact kk2 _ _ ⟨⟨n, c, t, tp, 0, s0, s1, p0, p1, Hn⟩, re_im_s hI, hE, hS0, hS1, hS2, hS3, hT⟩
