/-! reading a text: the reference's descent -/
theorem sp_look_r {L : Nat} {xs : Nat → Int32} {d ms b : Nat} {Q : am_Q} {h X : am_HI} {B : Nat → Int32} {tp p o : Nat} {c : List Int32} (htp : tp ≤ 60) (h5 : h 75 5 = nI tp) (hB : ∀ i, i < tp → h 75 (56 + i) = B i) (hX : rf_st h X tp p o c) (kk : Q (some (.int (tx_lk B tp p))) (am_S b) X) :
    am_wp L xs d 0 ms 169 0 [.ref 74] [] (am_S b) X Q := by
  have e75 := hX.1.1 75 rfl
  exact sp_look (h := h) (B := B) (tp := tp) (p := p) htp (by rw [e75]; exact h5) (by rw [e75]; exact hB) hX.2.2.1 hX.2.2.2.2.2.2.1 kk
theorem sp_look_b {L : Nat} {xs : Nat → Int32} {d ms b : Nat} {Q : am_Q} {h X : am_HI} {B : Nat → Int32} {tp p o : Nat} (htp : tp ≤ 60) (h5 : h 75 5 = nI tp) (hB : ∀ i, i < tp → h 75 (56 + i) = B i) (hX : rf_bad h X tp p o) (kk : Q (some (.int (tx_lk B tp p))) (am_S b) X) :
    am_wp L xs d 0 ms 169 0 [.ref 74] [] (am_S b) X Q := by
  have e75 := hX.1.1 75 rfl
  exact sp_look (h := h) (B := B) (tp := tp) (p := p) htp (by rw [e75]; exact h5) (by rw [e75]; exact hB) hX.2.2.1 hX.2.2.2.2.2.1 kk
theorem tx_lk_nm {B : Nat → Int32} {tp p u k : Nat} (h : tx_nm u (tx_lk B tp p) = some k) : p < tp ∧ tx_nm u (B p) = some k := by
  unfold tx_lk at h
  split at h
  · rename_i hp; exact ⟨hp, h⟩
  · unfold tx_nm at h
    split at h <;> cases h
theorem tx_nm_33 (u : Nat) : tx_nm u 33 = none ∧ tx_nm u 40 = none := by
  unfold tx_nm
  split <;> exact ⟨rfl, rfl⟩
def rf_one (L : Nat) (xs : Nat → Int32) (h : am_HI) (B : Nat → Int32) (tp u r : Nat) : Prop := ∀ (d ms b p o : Nat) (c : List Int32) (X : am_HI) (Q : am_Q), 7 * r + 4 ≤ d → o + r = 5 → rf_st h X tp p o c → (∀ X2 p2 c2, rf_st h X2 tp p2 o c2 → tx_EQ B tp u p c o p2 c2 → c2.length + p ≤ c.length + p2 → Q none (am_S b) X2) → (∀ X2 p2, rf_bad h X2 tp p2 o → tx_FQ B tp u p c o p2 → Q none (am_S b) X2) → am_wp L xs d 0 ms 168 0 [.ref 74, am_du, am_du] [] (am_S b) X Q
def rf_lv (L : Nat) (xs : Nat → Int32) (h : am_HI) (B : Nat → Int32) (tp u r lv M : Nat) (ls : List Value) : Prop := ∀ (d ms b p o : Nat) (c : List Int32) (X : am_HI) (Q : am_Q), 7 * r + 10 ≤ d + lv → o + r = 5 → rf_st h X tp p o c → (∀ X2 p2 c2, rf_st h X2 tp p2 o c2 → tx_E B tp u lv p c o p2 c2 → c2.length + p ≤ c.length + p2 → Q none (am_S b) X2) → (∀ X2 p2, rf_bad h X2 tp p2 o → tx_F B tp u lv p c o p2 → Q none (am_S b) X2) → am_wp L xs d 0 ms M 0 ls [] (am_S b) X Q
theorem sp_number {L : Nat} {xs : Nat → Int32} {d ms b p o : Nat} {c : List Int32} {Q : am_Q} {h : am_HI} {B : Nat → Int32} {tp : Nat} (htp : tp ≤ 60) (h5 : h 75 5 = nI tp) (hB : ∀ i, i < tp → h 75 (56 + i) = B i) {X : am_HI} (hX : rf_st h X tp p o c) (hd : 2 ≤ d) (kt : p < tp ∧ tx_dig (B p) = true → ∀ X2, rf_st h X2 tp (tx_num B tp 4 0 p).2 o (c ++ [nI (tx_num B tp 4 0 p).1]) → Q none (am_S b) X2) (kf : ¬ (p < tp ∧ tx_dig (B p) = true) → ∀ X2, rf_bad h X2 tp p o → Q none (am_S b) X2) :
    am_wp L xs d 0 ms 173 0 [.ref 74, am_du, am_du] [] (am_S b) X Q := by
  have hca := hX.2.2.2.2.2.1
  have hpt := hX.2.2.2.2.2.2.1
  refine wp_run 4 (pc' := 4) (ls' := [.ref 74, .int 0, .int 0]) (st' := []) rfl ?_
  refine lp_mnum htp h5 hB hd 4 0 0 p o c X rfl hX (fun X1 hX1 => ?_)
  by_cases hdg : p < tp ∧ tx_dig (B p) = true
  · have hlt : p < (tx_num B tp 4 0 p).2 := tx_num_lt hdg.1 hdg.2
    have hle := (tx_num_le (B := B) (tp := tp) 4 0 p hpt).2
    refine wp_run 2 (pc' := 54) (ls' := [.ref 74, .int (nI ((tx_num B tp 4 0 p).1)), .int (nI (0 + ((tx_num B tp 4 0 p).2 - p)))]) (st' := [.int (nI (0 + ((tx_num B tp 4 0 p).2 - p))), .ref 74]) rfl ?_
    refine wp_if_t rfl (show ¬ (nI (0 + ((tx_num B tp 4 0 p).2 - p))) = 0 from mt (nI_eq (a := (0 + ((tx_num B tp 4 0 p).2 - p))) (b := 0) (by omega) (by omega)).mp (by omega)) ?_
    refine wp_run 1 (pc' := 62) (ls' := [.ref 74, .int (nI ((tx_num B tp 4 0 p).1)), .int (nI (0 + ((tx_num B tp 4 0 p).2 - p)))]) (st' := [.int 0, .ref 74]) rfl ?_
    refine wp_putz rfl (Or.inl rfl) rfl ?_
    refine wp_run 3 (pc' := 68) (ls' := [.ref 74, .int (nI ((tx_num B tp 4 0 p).1)), .int (nI (0 + ((tx_num B tp 4 0 p).2 - p)))]) (st' := [.int (nI ((tx_num B tp 4 0 p).1)), .int 1, .ref 74]) rfl ?_
    refine wp_callV (o := 74) (as := [.int 1, .int (nI ((tx_num B tp 4 0 p).1))]) (rest := []) (els := [.ref 74, .int 1, .int (nI ((tx_num B tp 4 0 p).1))]) rfl rfl rfl rfl rfl rfl rfl rfl (by omega) ?_
    refine sp_lays_o (nI (tx_num B tp 4 0 p).1) htp (rf_g0 hX1) (by omega) (Or.inl ⟨rfl, rfl, pu_0 (by have := tx_num_b (B := B) (tp := tp) 4 0 p (by decide); omega)⟩) (fun X2 hX2 => ?_)
    have b2a := hX2.2.2.2.2.2.1
    have b2b := hX2.2.2.2.2.2.2.1
    show am_wp L xs _ _ _ _ 71 [.ref 74, .int (nI ((tx_num B tp 4 0 p).1)), .int (nI (0 + ((tx_num B tp 4 0 p).2 - p)))] [] (am_S b) X2 _
    refine wp_retv rfl ?_
    exact kt hdg _ hX2
  · rw [tx_num_n hdg] at hX1 ⊢
    show am_wp L xs _ _ _ _ 52 [.ref 74, .int (nI 0), .int (nI (0 + (p - p)))] [] (am_S b) X1 _
    refine wp_run 2 (pc' := 54) (ls' := [.ref 74, .int (nI 0), .int (nI (0 + (p - p)))]) (st' := [.int (nI (0 + (p - p))), .ref 74]) rfl ?_
    refine wp_if_f rfl (show ¬ (¬ (nI (0 + (p - p))) = 0) from (fun q => q ((nI_eq (a := (0 + (p - p))) (b := 0) (by omega) (by omega)).mpr (by omega)))) ?_
    refine wp_run 2 (pc' := 62) (ls' := [.ref 74, .int (nI 0), .int (nI (0 + (p - p)))]) (st' := [.int 1, .ref 74]) rfl ?_
    refine wp_putz rfl (Or.inr rfl) rfl ?_
    refine wp_run 3 (pc' := 68) (ls' := [.ref 74, .int (nI 0), .int (nI (0 + (p - p)))]) (st' := [.int (nI 0), .int 1, .ref 74]) rfl ?_
    refine wp_callV (o := 74) (as := [.int 1, .int (nI 0)]) (rest := []) (els := [.ref 74, .int 1, .int (nI 0)]) rfl rfl rfl rfl rfl rfl rfl rfl (by omega) ?_
    refine sp_lays_b (rf_ba hX1 htp) (fun X2 hX2 => ?_)
    show am_wp L xs _ _ _ _ 71 [.ref 74, .int (nI 0), .int (nI (0 + (p - p)))] [] (am_S b) X2 _
    refine wp_retv rfl ?_
    exact kf hdg _ hX2
theorem sp_one {L : Nat} {xs : Nat → Int32} {h : am_HI} {B : Nat → Int32} {tp u : Nat} (htp : tp ≤ 60) (h5 : h 75 5 = nI tp) (hB : ∀ i, i < tp → h 75 (56 + i) = B i) (hu : u = 0 ∨ u = 1) (h15 : h 74 15 = nI u) {r : Nat} (ih : ∀ q, r = q + 1 → rf_one L xs h B tp u q ∧ rf_lv L xs h B tp u q 1 163 [.ref 74]) : rf_one L xs h B tp u r := by
  intro d ms b p o c X1 Q hd hr hX1 kt kf
  have b1a := hX1.2.2.2.2.2.1
  have b1b := hX1.2.2.2.2.2.2.1
  have e15 : X1 74 15 = nI u := (hX1.1.2 15 (by decide) (by decide) (by decide) (by decide)).trans h15
  refine wp_run 1 (pc' := 1) (ls' := [.ref 74, am_du, am_du]) (st' := [.ref 74]) rfl ?_
  refine wp_callV (o := 74) (as := []) (rest := []) (els := [.ref 74]) rfl rfl rfl rfl rfl rfl rfl rfl (by omega) ?_
  refine sp_look_r htp h5 hB hX1 ?_
  show am_wp L xs _ _ _ _ 4 [.ref 74, am_du, am_du] [.int (tx_lk B tp p)] (am_S b) X1 _
  refine wp_run 3 (pc' := 7) (ls' := [.ref 74, .int (tx_lk B tp p), am_du]) (st' := [.int (tx_lk B tp p), .ref 74]) rfl ?_
  refine wp_callV (o := 74) (as := [.int (tx_lk B tp p)]) (rest := []) (els := [.ref 74, .int (tx_lk B tp p)]) rfl rfl rfl rfl rfl rfl rfl rfl (by omega) ?_
  refine sp_m_nameOf hu e15 ?_ ?_
  · skip
    intro kq hnm
    have hnm2 := tx_lk_nm hnm
    have hk3 := (tx_nm_dig hnm2.2).2
    show am_wp L xs _ _ _ _ 10 [.ref 74, .int (tx_lk B tp p), am_du] [.int (nI kq)] (am_S b) X1 _
    refine wp_run 2 (pc' := 12) (ls' := [.ref 74, .int (tx_lk B tp p), .int (nI kq)]) (st' := [.int (nI kq)]) rfl ?_
    refine wp_if_f rfl (show ¬ ((nI kq) < 0) from mt (nI_ltI (a := kq) (b := 0) (by omega) (by omega)).mp (by omega)) ?_
    refine wp_run 2 (pc' := 17) (ls' := [.ref 74, .int (tx_lk B tp p), .int (nI kq)]) (st' := [.ref 74, .ref 74]) rfl ?_
    refine wp_geti (a := 12) (nI p) hX1.2.2.1 rfl rfl rfl ?_
    refine wp_run 2 (pc' := 22) (ls' := [.ref 74, .int (tx_lk B tp p), .int (nI kq)]) (st' := [.int ((nI p) + 1), .ref 74]) rfl ?_
    rw [show (((nI p) + 1) : Int32) = (nI (p + 1)) from nI_add p 1]
    refine wp_puti rfl rfl ?_
    refine wp_run 3 (pc' := 28) (ls' := [.ref 74, .int (tx_lk B tp p), .int (nI kq)]) (st' := [.int (nI kq), .int 2, .ref 74]) rfl ?_
    refine wp_callV (o := 74) (as := [.int 2, .int (nI kq)]) (rest := []) (els := [.ref 74, .int 2, .int (nI kq)]) rfl rfl rfl rfl rfl rfl rfl rfl (by omega) ?_
    refine sp_lays_o (-1 - nI kq) htp (rf_p hX1 (by omega) (by omega)) (by omega) (Or.inr (Or.inl ⟨rfl, kq, hk3, rfl, rfl⟩)) (fun X2 hX2 => ?_)
    have b2a := hX2.2.2.2.2.2.1
    have b2b := hX2.2.2.2.2.2.2.1
    show am_wp L xs _ _ _ _ 31 [.ref 74, .int (tx_lk B tp p), .int (nI kq)] [] (am_S b) X2 _
    refine wp_run 1 (pc' := 58) (ls' := [.ref 74, .int (tx_lk B tp p), .int (nI kq)]) (st' := []) rfl ?_
    refine wp_retv rfl ?_
    refine kt _ _ _ hX2 (tq_name htp hnm2.1 hnm2.2) ?_
    rw [List.length_append]
    show c.length + 1 + p ≤ c.length + (p + 1)
    omega
  · skip
    intro hnm
    show am_wp L xs _ _ _ _ 10 [.ref 74, .int (tx_lk B tp p), am_du] [.int (-1)] (am_S b) X1 _
    refine wp_run 2 (pc' := 12) (ls' := [.ref 74, .int (tx_lk B tp p), .int (-1)]) (st' := [.int (-1)]) rfl ?_
    refine wp_if_t rfl (show ((-1) : Int32) < 0 from by decide) ?_
    refine wp_run 2 (pc' := 37) (ls' := [.ref 74, .int (tx_lk B tp p), .int (-1)]) (st' := [.int 33, .int (tx_lk B tp p)]) rfl ?_
    refine wp_icmp rfl (fun (cqs33 : (tx_lk B tp p) = 33) => ?_) (fun (cqs33 : ¬ ((tx_lk B tp p) = 33)) => ?_)
    · skip
      have cqb : (tx_lk B tp p) = 33 := cqs33
      have hop := tx_lk_eq (by decide) cqb
      have cqn40 : ¬ (tx_lk B tp p) = 40 := by rw [cqb]; decide
      refine wp_run 2 (pc' := 48) (ls' := [.ref 74, .int (tx_lk B tp p), .int (-1)]) (st' := [.int (tx_lk B tp p), .ref 74]) rfl ?_
      refine wp_callV (o := 74) (as := [.int (tx_lk B tp p)]) (rest := []) (els := [.ref 74, .int (tx_lk B tp p)]) rfl rfl rfl rfl rfl rfl rfl rfl (by omega) ?_
      rcases Nat.eq_zero_or_pos r with hr0 | hr0
      · skip
        refine wp_run 1 (pc' := 1) (ls' := [.ref 74, .int (tx_lk B tp p)]) (st' := [.ref 74]) rfl ?_
        refine wp_geti (a := 13) (nI o) hX1.2.2.2.1 rfl rfl rfl ?_
        refine wp_run 1 (pc' := 5) (ls' := [.ref 74, .int (tx_lk B tp p)]) (st' := [.int 5, .int (nI o)]) rfl ?_
        refine wp_icmp_f rfl (show ¬ (¬ (nI o) = 5) from (fun q => q (show (nI o : Int32) = 5 from by rw [show o = 5 by omega]; rfl))) ?_
        refine wp_run 2 (pc' := 10) (ls' := [.ref 74, .int (tx_lk B tp p)]) (st' := [.int 1, .ref 74]) rfl ?_
        refine wp_putz rfl (Or.inr rfl) rfl ?_
        refine wp_retv rfl ?_
        show am_wp L xs _ _ _ _ 51 [.ref 74, .int (tx_lk B tp p), .int (-1)] [] (am_S b) (am_u X1 74 14 1) _
        refine wp_run 1 (pc' := 58) (ls' := [.ref 74, .int (tx_lk B tp p), .int (-1)]) (st' := []) rfl ?_
        refine wp_retv rfl ?_
        exact kf _ _ (rf_ba hX1 htp) (tq_no hop.1 (by rw [hop.2]; decide) (by rw [hop.2]; exact (tx_nm_33 u).1) (fun q => by have := q.2; omega))
      · skip
        obtain ⟨ih1, ih2⟩ := ih (r - 1) (by omega)
        have ho5 : o < 5 := by omega
        refine wp_run 1 (pc' := 1) (ls' := [.ref 74, .int (tx_lk B tp p)]) (st' := [.ref 74]) rfl ?_
        refine wp_geti (a := 13) (nI o) hX1.2.2.2.1 rfl rfl rfl ?_
        refine wp_run 1 (pc' := 5) (ls' := [.ref 74, .int (tx_lk B tp p)]) (st' := [.int 5, .int (nI o)]) rfl ?_
        refine wp_icmp_t rfl (show ¬ (nI o) = 5 from mt (nI_eq (a := o) (b := 5) (by omega) (by omega)).mp (by omega)) ?_
        refine wp_run 2 (pc' := 16) (ls' := [.ref 74, .int (tx_lk B tp p)]) (st' := [.ref 74, .ref 74]) rfl ?_
        refine wp_geti (a := 13) (nI o) hX1.2.2.2.1 rfl rfl rfl ?_
        refine wp_run 2 (pc' := 21) (ls' := [.ref 74, .int (tx_lk B tp p)]) (st' := [.int ((nI o) + 1), .ref 74]) rfl ?_
        rw [show (((nI o) + 1) : Int32) = (nI (o + 1)) from nI_add o 1]
        refine wp_puti rfl rfl ?_
        refine wp_run 2 (pc' := 26) (ls' := [.ref 74, .int (tx_lk B tp p)]) (st' := [.ref 74, .ref 74]) rfl ?_
        refine wp_geti (a := 12) (nI p) hX1.2.2.1 rfl rfl rfl ?_
        refine wp_run 2 (pc' := 31) (ls' := [.ref 74, .int (tx_lk B tp p)]) (st' := [.int ((nI p) + 1), .ref 74]) rfl ?_
        rw [show (((nI p) + 1) : Int32) = (nI (p + 1)) from nI_add p 1]
        refine wp_puti rfl rfl ?_
        refine wp_run 2 (pc' := 37) (ls' := [.ref 74, .int (tx_lk B tp p)]) (st' := [.int 33, .int (tx_lk B tp p)]) rfl ?_
        refine wp_icmp_f rfl (show ¬ (¬ (tx_lk B tp p) = 33) from (fun q => q cqb)) ?_
        refine wp_run 1 (pc' := 41) (ls' := [.ref 74, .int (tx_lk B tp p)]) (st' := [.ref 74]) rfl ?_
        refine wp_callV (o := 74) (as := []) (rest := []) (els := [.ref 74, am_du, am_du]) rfl rfl rfl rfl rfl rfl rfl rfl (by omega) ?_
        refine ih1 _ _ _ _ _ _ _ _ (by omega) (by omega) (rf_p (rf_o hX1 (by omega)) (by omega) (by omega)) ?_ ?_
        · skip
          intro X2 p2 c2 hX2 hE2 hL2
          have b2a := hX2.2.2.2.2.2.1
          have b2b := hX2.2.2.2.2.2.2.1
          have b2c := hE2.1
          show am_wp L xs _ _ _ _ 44 [.ref 74, .int (tx_lk B tp p)] [] (am_S b) X2 _
          refine wp_run 3 (pc' := 47) (ls' := [.ref 74, .int (tx_lk B tp p)]) (st' := [.int 0, .int 3, .ref 74]) rfl ?_
          refine wp_callV (o := 74) (as := [.int 3, .int 0]) (rest := []) (els := [.ref 74, .int 3, .int 0]) rfl rfl rfl rfl rfl rfl rfl rfl (by omega) ?_
          refine sp_lays_o (-33) htp hX2 (by omega) (Or.inr (Or.inr (Or.inl ⟨rfl, rfl⟩))) (fun X3 hX3 => ?_)
          have b3a := hX3.2.2.2.2.2.1
          have b3b := hX3.2.2.2.2.2.2.1
          show am_wp L xs _ _ _ _ 50 [.ref 74, .int (tx_lk B tp p)] [] (am_S b) X3 _
          refine wp_run 3 (pc' := 105) (ls' := [.ref 74, .int (tx_lk B tp p)]) (st' := [.ref 74, .ref 74]) rfl ?_
          refine wp_geti (a := 13) (nI (o + 1)) hX3.2.2.2.1 rfl rfl rfl ?_
          refine wp_run 2 (pc' := 110) (ls' := [.ref 74, .int (tx_lk B tp p)]) (st' := [.int ((nI (o + 1)) - 1), .ref 74]) rfl ?_
          rw [show (((nI (o + 1)) - 1) : Int32) = (nI o) from nI_pred o]
          refine wp_puti rfl rfl ?_
          refine wp_retv rfl ?_
          show am_wp L xs _ _ _ _ 51 [.ref 74, .int (tx_lk B tp p), .int (-1)] [] (am_S b) (am_u X3 74 13 (nI o)) _
          refine wp_run 1 (pc' := 58) (ls' := [.ref 74, .int (tx_lk B tp p), .int (-1)]) (st' := []) rfl ?_
          refine wp_retv rfl ?_
          refine kt _ _ _ (rf_o hX3 (by omega)) (tq_not hop.1 hop.2 ho5 hE2) ?_
          rw [List.length_append]
          show c2.length + 1 + p ≤ c.length + p2
          omega
        · skip
          intro X2 p2 hX2 hF2
          have b2a := hX2.2.2.2.2.2.1
          show am_wp L xs _ _ _ _ 44 [.ref 74, .int (tx_lk B tp p)] [] (am_S b) X2 _
          refine wp_run 3 (pc' := 47) (ls' := [.ref 74, .int (tx_lk B tp p)]) (st' := [.int 0, .int 3, .ref 74]) rfl ?_
          refine wp_callV (o := 74) (as := [.int 3, .int 0]) (rest := []) (els := [.ref 74, .int 3, .int 0]) rfl rfl rfl rfl rfl rfl rfl rfl (by omega) ?_
          refine sp_lays_b hX2 (fun X3 hX3 => ?_)
          show am_wp L xs _ _ _ _ 50 [.ref 74, .int (tx_lk B tp p)] [] (am_S b) X3 _
          refine wp_run 3 (pc' := 105) (ls' := [.ref 74, .int (tx_lk B tp p)]) (st' := [.ref 74, .ref 74]) rfl ?_
          refine wp_geti (a := 13) (nI (o + 1)) hX3.2.2.2.1 rfl rfl rfl ?_
          refine wp_run 2 (pc' := 110) (ls' := [.ref 74, .int (tx_lk B tp p)]) (st' := [.int ((nI (o + 1)) - 1), .ref 74]) rfl ?_
          rw [show (((nI (o + 1)) - 1) : Int32) = (nI o) from nI_pred o]
          refine wp_puti rfl rfl ?_
          refine wp_retv rfl ?_
          show am_wp L xs _ _ _ _ 51 [.ref 74, .int (tx_lk B tp p), .int (-1)] [] (am_S b) (am_u X3 74 13 (nI o)) _
          refine wp_run 1 (pc' := 58) (ls' := [.ref 74, .int (tx_lk B tp p), .int (-1)]) (st' := []) rfl ?_
          refine wp_retv rfl ?_
          exact kf _ _ (rf_bo hX3 (by omega)) (tq_notF hop.1 hop.2 ho5 hF2)
    · skip
      have cqn33 : ¬ (tx_lk B tp p) = 33 := cqs33
      refine wp_run 2 (pc' := 43) (ls' := [.ref 74, .int (tx_lk B tp p), .int (-1)]) (st' := [.int 40, .int (tx_lk B tp p)]) rfl ?_
      refine wp_icmp rfl (fun (cqs40 : ¬ (tx_lk B tp p) = 40) => ?_) (fun (cqs40 : ¬ (¬ (tx_lk B tp p) = 40)) => ?_)
      · skip
        have cqn40 : ¬ (tx_lk B tp p) = 40 := cqs40
        refine wp_run 1 (pc' := 55) (ls' := [.ref 74, .int (tx_lk B tp p), .int (-1)]) (st' := [.ref 74]) rfl ?_
        refine wp_callV (o := 74) (as := []) (rest := []) (els := [.ref 74, am_du, am_du]) rfl rfl rfl rfl rfl rfl rfl rfl (by omega) ?_
        refine sp_number htp h5 hB hX1 (by omega) ?_ ?_
        · skip
          intro hdg X2 hX2
          have hlt : p < (tx_num B tp 4 0 p).2 := tx_num_lt hdg.1 hdg.2
          show am_wp L xs _ _ _ _ 58 [.ref 74, .int (tx_lk B tp p), .int (-1)] [] (am_S b) X2 _
          refine wp_retv rfl ?_
          refine kt _ _ _ hX2 (tq_num htp hdg.1 hdg.2) ?_
          rw [List.length_append]
          show c.length + 1 + p ≤ c.length + (tx_num B tp 4 0 p).2
          omega
        · skip
          intro hdg X2 hX2
          show am_wp L xs _ _ _ _ 58 [.ref 74, .int (tx_lk B tp p), .int (-1)] [] (am_S b) X2 _
          refine wp_retv rfl ?_
          refine kf _ _ hX2 ?_
          by_cases hpt : p < tp
          · rw [tx_lk_in hpt] at hnm cqn33 cqn40
            exact tq_no hpt (by cases q : tx_dig (B p); rfl; exact absurd ⟨hpt, q⟩ hdg) hnm (fun q => q.1.elim cqn33 cqn40)
          · exact tq_end (by omega)
      · skip
        replace cqs40 := Decidable.not_not.mp cqs40
        have cqb : (tx_lk B tp p) = 40 := cqs40
        have hop := tx_lk_eq (by decide) cqb
        have cqn33 : ¬ (tx_lk B tp p) = 33 := by rw [cqb]; decide
        refine wp_run 2 (pc' := 48) (ls' := [.ref 74, .int (tx_lk B tp p), .int (-1)]) (st' := [.int (tx_lk B tp p), .ref 74]) rfl ?_
        refine wp_callV (o := 74) (as := [.int (tx_lk B tp p)]) (rest := []) (els := [.ref 74, .int (tx_lk B tp p)]) rfl rfl rfl rfl rfl rfl rfl rfl (by omega) ?_
        rcases Nat.eq_zero_or_pos r with hr0 | hr0
        · skip
          refine wp_run 1 (pc' := 1) (ls' := [.ref 74, .int (tx_lk B tp p)]) (st' := [.ref 74]) rfl ?_
          refine wp_geti (a := 13) (nI o) hX1.2.2.2.1 rfl rfl rfl ?_
          refine wp_run 1 (pc' := 5) (ls' := [.ref 74, .int (tx_lk B tp p)]) (st' := [.int 5, .int (nI o)]) rfl ?_
          refine wp_icmp_f rfl (show ¬ (¬ (nI o) = 5) from (fun q => q (show (nI o : Int32) = 5 from by rw [show o = 5 by omega]; rfl))) ?_
          refine wp_run 2 (pc' := 10) (ls' := [.ref 74, .int (tx_lk B tp p)]) (st' := [.int 1, .ref 74]) rfl ?_
          refine wp_putz rfl (Or.inr rfl) rfl ?_
          refine wp_retv rfl ?_
          show am_wp L xs _ _ _ _ 51 [.ref 74, .int (tx_lk B tp p), .int (-1)] [] (am_S b) (am_u X1 74 14 1) _
          refine wp_run 1 (pc' := 58) (ls' := [.ref 74, .int (tx_lk B tp p), .int (-1)]) (st' := []) rfl ?_
          refine wp_retv rfl ?_
          exact kf _ _ (rf_ba hX1 htp) (tq_no hop.1 (by rw [hop.2]; decide) (by rw [hop.2]; exact (tx_nm_33 u).2) (fun q => by have := q.2; omega))
        · skip
          obtain ⟨ih1, ih2⟩ := ih (r - 1) (by omega)
          have ho5 : o < 5 := by omega
          refine wp_run 1 (pc' := 1) (ls' := [.ref 74, .int (tx_lk B tp p)]) (st' := [.ref 74]) rfl ?_
          refine wp_geti (a := 13) (nI o) hX1.2.2.2.1 rfl rfl rfl ?_
          refine wp_run 1 (pc' := 5) (ls' := [.ref 74, .int (tx_lk B tp p)]) (st' := [.int 5, .int (nI o)]) rfl ?_
          refine wp_icmp_t rfl (show ¬ (nI o) = 5 from mt (nI_eq (a := o) (b := 5) (by omega) (by omega)).mp (by omega)) ?_
          refine wp_run 2 (pc' := 16) (ls' := [.ref 74, .int (tx_lk B tp p)]) (st' := [.ref 74, .ref 74]) rfl ?_
          refine wp_geti (a := 13) (nI o) hX1.2.2.2.1 rfl rfl rfl ?_
          refine wp_run 2 (pc' := 21) (ls' := [.ref 74, .int (tx_lk B tp p)]) (st' := [.int ((nI o) + 1), .ref 74]) rfl ?_
          rw [show (((nI o) + 1) : Int32) = (nI (o + 1)) from nI_add o 1]
          refine wp_puti rfl rfl ?_
          refine wp_run 2 (pc' := 26) (ls' := [.ref 74, .int (tx_lk B tp p)]) (st' := [.ref 74, .ref 74]) rfl ?_
          refine wp_geti (a := 12) (nI p) hX1.2.2.1 rfl rfl rfl ?_
          refine wp_run 2 (pc' := 31) (ls' := [.ref 74, .int (tx_lk B tp p)]) (st' := [.int ((nI p) + 1), .ref 74]) rfl ?_
          rw [show (((nI p) + 1) : Int32) = (nI (p + 1)) from nI_add p 1]
          refine wp_puti rfl rfl ?_
          refine wp_run 2 (pc' := 37) (ls' := [.ref 74, .int (tx_lk B tp p)]) (st' := [.int 33, .int (tx_lk B tp p)]) rfl ?_
          refine wp_icmp_t rfl (show ¬ (tx_lk B tp p) = 33 from cqn33) ?_
          refine wp_run 1 (pc' := 54) (ls' := [.ref 74, .int (tx_lk B tp p)]) (st' := [.ref 74]) rfl ?_
          refine wp_callV (o := 74) (as := []) (rest := []) (els := [.ref 74]) rfl rfl rfl rfl rfl rfl rfl rfl (by omega) ?_
          refine ih2 _ _ _ _ _ _ _ _ (by omega) (by omega) (rf_p (rf_o hX1 (by omega)) (by omega) (by omega)) ?_ ?_
          · skip
            intro X2 p2 c2 hX2 hE2 hL2
            have b2a := hX2.2.2.2.2.2.1
            have b2b := hX2.2.2.2.2.2.2.1
            have b2c := hE2.1
            show am_wp L xs _ _ _ _ 57 [.ref 74, .int (tx_lk B tp p)] [] (am_S b) X2 _
            refine wp_run 2 (pc' := 59) (ls' := [.ref 74, .int (tx_lk B tp p)]) (st' := [.ref 74, .ref 74]) rfl ?_
            refine wp_geti (a := 14) 0 hX2.2.2.2.2.1 rfl rfl rfl ?_
            refine wp_if_f rfl (show ¬ (¬ (0 : Int32) = 0) from by decide) ?_
            refine wp_run 1 (pc' := 66) (ls' := [.ref 74, .int (tx_lk B tp p)]) (st' := [.ref 74, .ref 74]) rfl ?_
            refine wp_callV (o := 74) (as := []) (rest := [.ref 74]) (els := [.ref 74]) rfl rfl rfl rfl rfl rfl rfl rfl (by omega) ?_
            refine sp_look_r htp h5 hB hX2 ?_
            show am_wp L xs _ _ _ _ 69 [.ref 74, .int (tx_lk B tp p)] [.int (tx_lk B tp p2), .ref 74] (am_S b) X2 _
            refine wp_run 1 (pc' := 71) (ls' := [.ref 74, .int (tx_lk B tp p)]) (st' := [.int 41, .int (tx_lk B tp p2), .ref 74]) rfl ?_
            refine wp_icmp rfl (fun (cq41 : (tx_lk B tp p2) = 41) => ?_) (fun (cq41 : ¬ ((tx_lk B tp p2) = 41)) => ?_)
            · skip
              have hcl := tx_lk_eq (by decide) cq41
              refine wp_run 1 (pc' := 79) (ls' := [.ref 74, .int (tx_lk B tp p)]) (st' := [.int 0, .ref 74]) rfl ?_
              refine wp_putz rfl (Or.inl rfl) rfl ?_
              refine wp_run 2 (pc' := 84) (ls' := [.ref 74, .int (tx_lk B tp p)]) (st' := [.ref 74, .ref 74]) rfl ?_
              refine wp_geti (a := 12) (nI p2) hX2.2.2.1 rfl rfl rfl ?_
              refine wp_run 1 (pc' := 88) (ls' := [.ref 74, .int (tx_lk B tp p)]) (st' := [.ref 74, .int (nI p2), .ref 74]) rfl ?_
              refine wp_geti (a := 14) 0 (am_u_at _ _ _ _) rfl rfl rfl ?_
              refine wp_if_t rfl (show (0 : Int32) = 0 from by decide) ?_
              refine wp_run 2 (pc' := 100) (ls' := [.ref 74, .int (tx_lk B tp p)]) (st' := [.int ((nI p2) + 1), .ref 74]) rfl ?_
              rw [show (((nI p2) + 1) : Int32) = (nI (p2 + 1)) from nI_add p2 1]
              refine wp_puti rfl rfl ?_
              refine wp_run 2 (pc' := 105) (ls' := [.ref 74, .int (tx_lk B tp p)]) (st' := [.ref 74, .ref 74]) rfl ?_
              refine wp_geti (a := 13) (nI (o + 1)) hX2.2.2.2.1 rfl rfl rfl ?_
              refine wp_run 2 (pc' := 110) (ls' := [.ref 74, .int (tx_lk B tp p)]) (st' := [.int ((nI (o + 1)) - 1), .ref 74]) rfl ?_
              rw [show (((nI (o + 1)) - 1) : Int32) = (nI o) from nI_pred o]
              refine wp_puti rfl rfl ?_
              refine wp_retv rfl ?_
              show am_wp L xs _ _ _ _ 51 [.ref 74, .int (tx_lk B tp p), .int (-1)] [] (am_S b) (am_u (am_u (am_u X2 74 14 0) 74 12 (nI (p2 + 1))) 74 13 (nI o)) _
              refine wp_run 1 (pc' := 58) (ls' := [.ref 74, .int (tx_lk B tp p), .int (-1)]) (st' := []) rfl ?_
              refine wp_retv rfl ?_
              exact kt _ _ _ (rf_o (rf_p (rf_g0 hX2) (by omega) (by omega)) (by omega)) (tq_par hop.1 hop.2 ho5 hE2 hcl.1 hcl.2) (by omega)
            · skip
              have hcl : ¬ (p2 < tp ∧ B p2 = 41) := fun q => cq41 (by rw [tx_lk_in q.1]; exact q.2)
              refine wp_run 2 (pc' := 79) (ls' := [.ref 74, .int (tx_lk B tp p)]) (st' := [.int 1, .ref 74]) rfl ?_
              refine wp_putz rfl (Or.inr rfl) rfl ?_
              refine wp_run 2 (pc' := 84) (ls' := [.ref 74, .int (tx_lk B tp p)]) (st' := [.ref 74, .ref 74]) rfl ?_
              refine wp_geti (a := 12) (nI p2) hX2.2.2.1 rfl rfl rfl ?_
              refine wp_run 1 (pc' := 88) (ls' := [.ref 74, .int (tx_lk B tp p)]) (st' := [.ref 74, .int (nI p2), .ref 74]) rfl ?_
              refine wp_geti (a := 14) 1 (am_u_at _ _ _ _) rfl rfl rfl ?_
              refine wp_if_f rfl (show ¬ ((1 : Int32) = 0) from by decide) ?_
              refine wp_run 3 (pc' := 100) (ls' := [.ref 74, .int (tx_lk B tp p)]) (st' := [.int ((nI p2) + 0), .ref 74]) rfl ?_
              rw [show (((nI p2) + 0) : Int32) = (nI (p2 + 0)) from nI_add p2 0]
              refine wp_puti rfl rfl ?_
              refine wp_run 2 (pc' := 105) (ls' := [.ref 74, .int (tx_lk B tp p)]) (st' := [.ref 74, .ref 74]) rfl ?_
              refine wp_geti (a := 13) (nI (o + 1)) hX2.2.2.2.1 rfl rfl rfl ?_
              refine wp_run 2 (pc' := 110) (ls' := [.ref 74, .int (tx_lk B tp p)]) (st' := [.int ((nI (o + 1)) - 1), .ref 74]) rfl ?_
              rw [show (((nI (o + 1)) - 1) : Int32) = (nI o) from nI_pred o]
              refine wp_puti rfl rfl ?_
              refine wp_retv rfl ?_
              show am_wp L xs _ _ _ _ 51 [.ref 74, .int (tx_lk B tp p), .int (-1)] [] (am_S b) (am_u (am_u (am_u X2 74 14 1) 74 12 (nI (p2 + 0))) 74 13 (nI o)) _
              refine wp_run 1 (pc' := 58) (ls' := [.ref 74, .int (tx_lk B tp p), .int (-1)]) (st' := []) rfl ?_
              refine wp_retv rfl ?_
              exact kf _ _ (rf_bo (rf_bh (rf_ba hX2 htp)) (by omega)) (tq_parN hop.1 hop.2 ho5 hE2 hcl)
          · skip
            intro X2 p2 hX2 hF2
            have b2a := hX2.2.2.2.2.2.1
            show am_wp L xs _ _ _ _ 57 [.ref 74, .int (tx_lk B tp p)] [] (am_S b) X2 _
            refine wp_run 2 (pc' := 59) (ls' := [.ref 74, .int (tx_lk B tp p)]) (st' := [.ref 74, .ref 74]) rfl ?_
            refine wp_geti (a := 14) 1 hX2.2.2.2.2.1 rfl rfl rfl ?_
            refine wp_if_t rfl (show ¬ (1 : Int32) = 0 from by decide) ?_
            refine wp_run 2 (pc' := 79) (ls' := [.ref 74, .int (tx_lk B tp p)]) (st' := [.int 1, .ref 74]) rfl ?_
            refine wp_putz rfl (Or.inr rfl) rfl ?_
            refine wp_run 2 (pc' := 84) (ls' := [.ref 74, .int (tx_lk B tp p)]) (st' := [.ref 74, .ref 74]) rfl ?_
            refine wp_geti (a := 12) (nI p2) hX2.2.2.1 rfl rfl rfl ?_
            refine wp_run 1 (pc' := 88) (ls' := [.ref 74, .int (tx_lk B tp p)]) (st' := [.ref 74, .int (nI p2), .ref 74]) rfl ?_
            refine wp_geti (a := 14) 1 (am_u_at _ _ _ _) rfl rfl rfl ?_
            refine wp_if_f rfl (show ¬ ((1 : Int32) = 0) from by decide) ?_
            refine wp_run 3 (pc' := 100) (ls' := [.ref 74, .int (tx_lk B tp p)]) (st' := [.int ((nI p2) + 0), .ref 74]) rfl ?_
            rw [show (((nI p2) + 0) : Int32) = (nI (p2 + 0)) from nI_add p2 0]
            refine wp_puti rfl rfl ?_
            refine wp_run 2 (pc' := 105) (ls' := [.ref 74, .int (tx_lk B tp p)]) (st' := [.ref 74, .ref 74]) rfl ?_
            refine wp_geti (a := 13) (nI (o + 1)) hX2.2.2.2.1 rfl rfl rfl ?_
            refine wp_run 2 (pc' := 110) (ls' := [.ref 74, .int (tx_lk B tp p)]) (st' := [.int ((nI (o + 1)) - 1), .ref 74]) rfl ?_
            rw [show (((nI (o + 1)) - 1) : Int32) = (nI o) from nI_pred o]
            refine wp_puti rfl rfl ?_
            refine wp_retv rfl ?_
            show am_wp L xs _ _ _ _ 51 [.ref 74, .int (tx_lk B tp p), .int (-1)] [] (am_S b) (am_u (am_u (am_u X2 74 14 1) 74 12 (nI (p2 + 0))) 74 13 (nI o)) _
            refine wp_run 1 (pc' := 58) (ls' := [.ref 74, .int (tx_lk B tp p), .int (-1)]) (st' := []) rfl ?_
            refine wp_retv rfl ?_
            exact kf _ _ (rf_bo (rf_bh (rf_b1 hX2)) (by omega)) (tq_parF hop.1 hop.2 ho5 hF2)
