/-! reading a text: the reference's small parts -/
def rf_off (h X : am_HI) : Prop := (∀ a, [74, 81, 82].elem a = false → X a = h a) ∧ (∀ i, i ≠ 11 → i ≠ 12 → i ≠ 13 → i ≠ 14 → X 74 i = h 74 i)
def rf_st (h X : am_HI) (tp p o : Nat) (c : List Int32) : Prop := rf_off h X ∧ X 74 11 = nI c.length ∧ X 74 12 = nI p ∧ X 74 13 = nI o ∧ X 74 14 = 0 ∧ c.length ≤ p ∧ p ≤ tp ∧ o ≤ 5 ∧ ∀ i (hi : i < c.length), re_op (X 81 i) (X 82 i) c[i]
def rf_bad (h X : am_HI) (tp p o : Nat) : Prop := rf_off h X ∧ (∃ n, n ≤ 60 ∧ X 74 11 = nI n) ∧ X 74 12 = nI p ∧ X 74 13 = nI o ∧ X 74 14 = 1 ∧ p ≤ tp ∧ o ≤ 5
def tx_lk (B : Nat → Int32) (tp p : Nat) : Int32 := if p < tp then B p else -1
theorem tx_lk_eq {B : Nat → Int32} {tp p : Nat} {b : Int32} (hb : b ≠ -1) (h : tx_lk B tp p = b) : p < tp ∧ B p = b := by
  unfold tx_lk at h
  split at h
  · rename_i hp; exact ⟨hp, h⟩
  · exact absurd h.symm hb
theorem tx_lk_in {B : Nat → Int32} {tp p : Nat} (h : p < tp) : tx_lk B tp p = B p := if_pos h
theorem tx_lk_dig {B : Nat → Int32} {tp p : Nat} : (48 ≤ tx_lk B tp p ∧ tx_lk B tp p ≤ 57) ↔ (p < tp ∧ tx_dig (B p) = true) := by
  unfold tx_lk tx_dig
  by_cases h : p < tp
  · rw [if_pos h, Bool.and_eq_true, decide_eq_true_eq, decide_eq_true_eq]
    exact ⟨fun q => ⟨h, q⟩, fun q => q.2⟩
  · rw [if_neg h]
    exact ⟨fun q => absurd q.1 (by decide), fun q => absurd q.1 h⟩
theorem rf_off_u {h X : am_HI} {i : Nat} {v : Int32} (hX : rf_off h X) (hi : i = 11 ∨ i = 12 ∨ i = 13 ∨ i = 14) : rf_off h (am_u X 74 i v) := by
  refine ⟨fun a ha => (am_u_off _ _ _ (am_nel ha rfl)).trans (hX.1 a ha), fun q q1 q2 q3 q4 => ?_⟩
  show upd (X 74) i v q = _
  rw [pk_un (by omega)]
  exact hX.2 q q1 q2 q3 q4
theorem rf_off_r {h X : am_HI} {k i : Nat} {v : Int32} (hX : rf_off h X) (hk : k = 81 ∨ k = 82) : rf_off h (am_u X k i v) := by
  refine ⟨fun a ha => ?_, fun q q1 q2 q3 q4 => ?_⟩
  · rcases hk with rfl | rfl
    · exact (am_u_off _ _ _ (am_nel ha rfl)).trans (hX.1 a ha)
    · exact (am_u_off _ _ _ (am_nel ha rfl)).trans (hX.1 a ha)
  · rcases hk with rfl | rfl
    · rw [am_u_off _ _ _ (by decide)]; exact hX.2 q q1 q2 q3 q4
    · rw [am_u_off _ _ _ (by decide)]; exact hX.2 q q1 q2 q3 q4
theorem rf_p {h X : am_HI} {tp p p2 o : Nat} {c : List Int32} (hX : rf_st h X tp p o c) (h1 : p ≤ p2) (h2 : p2 ≤ tp) : rf_st h (am_u X 74 12 (nI p2)) tp p2 o c := by
  obtain ⟨a1, a2, a3, a4, a5, a6, a7, a8, a9⟩ := hX
  exact ⟨rf_off_u a1 (by omega), a2, rfl, a4, a5, by omega, h2, a8, a9⟩
theorem rf_o {h X : am_HI} {tp p o o2 : Nat} {c : List Int32} (hX : rf_st h X tp p o c) (h2 : o2 ≤ 5) : rf_st h (am_u X 74 13 (nI o2)) tp p o2 c := by
  obtain ⟨a1, a2, a3, a4, a5, a6, a7, a8, a9⟩ := hX
  exact ⟨rf_off_u a1 (by omega), a2, a3, rfl, a5, a6, a7, h2, a9⟩
theorem rf_bo {h X : am_HI} {tp p o o2 : Nat} (hX : rf_bad h X tp p o) (h2 : o2 ≤ 5) : rf_bad h (am_u X 74 13 (nI o2)) tp p o2 := by
  obtain ⟨a1, a2, a3, a4, a5, a6, a7⟩ := hX
  exact ⟨rf_off_u a1 (by omega), a2, a3, rfl, a5, a6, h2⟩
theorem rf_ba {h X : am_HI} {tp p o : Nat} {c : List Int32} (hX : rf_st h X tp p o c) (htp : tp ≤ 60) : rf_bad h (am_u X 74 14 1) tp p o := by
  obtain ⟨a1, a2, a3, a4, a5, a6, a7, a8, a9⟩ := hX
  exact ⟨rf_off_u a1 (by omega), ⟨c.length, by omega, a2⟩, a3, a4, rfl, a7, a8⟩
theorem rf_b1 {h X : am_HI} {tp p o : Nat} (hX : rf_bad h X tp p o) : rf_bad h (am_u X 74 14 1) tp p o := by
  obtain ⟨a1, a2, a3, a4, a5, a6, a7⟩ := hX
  exact ⟨rf_off_u a1 (by omega), a2, a3, a4, rfl, a6, a7⟩
theorem rf_bh {h X : am_HI} {tp p o : Nat} (hX : rf_bad h X tp p o) : rf_bad h (am_u X 74 12 (nI p)) tp p o := by
  obtain ⟨a1, a2, a3, a4, a5, a6, a7⟩ := hX
  exact ⟨rf_off_u a1 (by omega), a2, rfl, a4, a5, a6, a7⟩
theorem rf_g0 {h X : am_HI} {tp p o : Nat} {c : List Int32} (hX : rf_st h X tp p o c) : rf_st h (am_u X 74 14 0) tp p o c := by
  obtain ⟨a1, a2, a3, a4, a5, a6, a7, a8, a9⟩ := hX
  exact ⟨rf_off_u a1 (by omega), a2, a3, a4, rfl, a6, a7, a8, a9⟩
theorem rf_lay {h X : am_HI} {tp p o : Nat} {c : List Int32} {a w it : Int32} (hX : rf_st h X tp p o c) (hp : c.length < p) (ho : re_op a w it) : rf_st h (am_u (am_u (am_u X 81 c.length a) 82 c.length w) 74 11 (nI (c.length + 1))) tp p o (c ++ [it]) := by
  obtain ⟨a1, a2, a3, a4, a5, a6, a7, a8, a9⟩ := hX
  refine ⟨rf_off_u (rf_off_r (rf_off_r a1 (Or.inl rfl)) (Or.inr rfl)) (by omega), by rw [List.length_append]; rfl, a3, a4, a5, by rw [List.length_append]; show c.length + 1 ≤ p; omega, a7, a8, fun i hi => ?_⟩
  show re_op (upd (X 81) c.length a i) (upd (X 82) c.length w i) _
  by_cases e : i = c.length
  · subst e
    rw [pk_us, pk_us, List.getElem_append_right (Nat.le_refl _)]
    simpa using ho
  · have hi2 : i < c.length := by
      rw [List.length_append] at hi
      have : [it].length = 1 := rfl
      omega
    rw [pk_un e, pk_un e, List.getElem_append_left hi2]
    exact a9 i hi2
theorem rf_blay {h X : am_HI} {tp p o n : Nat} {a w : Int32} (hX : rf_bad h X tp p o) (hn : n < 60) : rf_bad h (am_u (am_u (am_u X 81 n a) 82 n w) 74 11 (nI (n + 1))) tp p o := by
  obtain ⟨a1, a2, a3, a4, a5, a6, a7⟩ := hX
  exact ⟨rf_off_u (rf_off_r (rf_off_r a1 (Or.inl rfl)) (Or.inr rfl)) (by omega), ⟨n + 1, by omega, rfl⟩, a3, a4, a5, a6, a7⟩
theorem sp_look {L : Nat} {xs : Nat → Int32} {d ms b : Nat} {h : am_HI} {Q : am_Q} {X : am_HI} {B : Nat → Int32} {tp p : Nat} (htp : tp ≤ 60) (h5 : X 75 5 = nI tp) (hB : ∀ i, i < tp → X 75 (56 + i) = B i) (hp : X 74 12 = nI p) (hpt : p ≤ tp) (kk : Q (some (.int (tx_lk B tp p))) (am_S b) X) :
    am_wp L xs d 0 ms 169 0 [.ref 74] [] (am_S b) X Q := by
  refine wp_run 1 (pc' := 1) (ls' := [.ref 74]) (st' := [.ref 74]) rfl ?_
  refine wp_geti (a := 12) (nI p) hp rfl rfl rfl ?_
  refine wp_run 1 (pc' := 5) (ls' := [.ref 74]) (st' := [.ref 74, .int (nI p)]) rfl ?_
  refine wp_getr 75 rfl rfl rfl ?_
  refine wp_run 1 (pc' := 9) (ls' := [.ref 74]) (st' := [.int 5, .ref 75, .int (nI p)]) rfl ?_
  refine wp_ald (i := 5) (nI tp) h5 rfl rfl rfl (by decide) rfl ?_
  refine wp_icmp rfl (fun (cq10 : (nI tp) ≤ (nI p)) => ?_) (fun (cq10 : ¬ ((nI tp) ≤ (nI p))) => ?_)
  · skip
    have cq10n : tp ≤ p := (nI_leI (a := tp) (b := p) (by omega) (by omega)).mp cq10
    refine wp_run 1 (pc' := 29) (ls' := [.ref 74]) (st' := [.int (-1)]) rfl ?_
    refine wp_ret rfl ?_
    rw [show tx_lk B tp p = (-1) from if_neg (by omega)] at kk
    exact kk
  · skip
    have cq10n : ¬ (tp ≤ p) := fun q => cq10 ((nI_leI (a := tp) (b := p) (by omega) (by omega)).mpr q)
    refine wp_run 1 (pc' := 14) (ls' := [.ref 74]) (st' := [.ref 74]) rfl ?_
    refine wp_getr 75 rfl rfl rfl ?_
    refine wp_run 2 (pc' := 20) (ls' := [.ref 74]) (st' := [.ref 74, .int 56, .ref 75]) rfl ?_
    refine wp_geti (a := 12) (nI p) hp rfl rfl rfl ?_
    refine wp_run 1 (pc' := 24) (ls' := [.ref 74]) (st' := [.int (56 + (nI p)), .ref 75]) rfl ?_
    rw [show ((56 + (nI p)) : Int32) = (nI (56 + p)) from nI_add 56 p]
    refine wp_ald (i := (56 + p)) (B p) (hB p (by omega)) rfl rfl rfl (by omega) rfl ?_
    refine wp_run 1 (pc' := 29) (ls' := [.ref 74]) (st' := [.int (B p)]) rfl ?_
    refine wp_ret rfl ?_
    rw [show tx_lk B tp p = (B p) from if_pos (by omega)] at kk
    exact kk
theorem sp_lays {L : Nat} {xs : Nat → Int32} {d ms b : Nat} {h : am_HI} {Q : am_Q} {X : am_HI} {n : Nat} {a w : Int32} (hs : X 74 11 = nI n) (hn : n < 60) (kk : Q none (am_S b) (am_u (am_u (am_u X 81 n a) 82 n w) 74 11 (nI (n + 1)))) :
    am_wp L xs d 0 ms 171 0 [.ref 74, .int a, .int w] [] (am_S b) X Q := by
  refine wp_run 1 (pc' := 1) (ls' := [.ref 74, .int a, .int w]) (st' := [.ref 74]) rfl ?_
  refine wp_geti (a := 11) (nI n) hs rfl rfl rfl ?_
  refine wp_run 1 (pc' := 5) (ls' := [.ref 74, .int a, .int w]) (st' := [.ref 74, .int (nI n)]) rfl ?_
  refine wp_getr 81 rfl rfl rfl ?_
  refine wp_len rfl rfl ?_
  refine wp_icmp_f rfl (show ¬ ((nI 60) ≤ (nI n)) from mt (nI_leI (a := 60) (b := n) (by omega) (by omega)).mp (by omega)) ?_
  refine wp_run 1 (pc' := 13) (ls' := [.ref 74, .int a, .int w]) (st' := [.ref 74]) rfl ?_
  refine wp_getr 81 rfl rfl rfl ?_
  refine wp_run 1 (pc' := 17) (ls' := [.ref 74, .int a, .int w]) (st' := [.ref 74, .ref 81]) rfl ?_
  refine wp_geti (a := 11) (nI n) hs rfl rfl rfl ?_
  refine wp_run 1 (pc' := 21) (ls' := [.ref 74, .int a, .int w]) (st' := [.int a, .int (nI n), .ref 81]) rfl ?_
  refine wp_ast rfl rfl rfl (by omega) rfl ?_
  refine wp_run 1 (pc' := 23) (ls' := [.ref 74, .int a, .int w]) (st' := [.ref 74]) rfl ?_
  refine wp_getr 82 rfl rfl rfl ?_
  refine wp_run 1 (pc' := 27) (ls' := [.ref 74, .int a, .int w]) (st' := [.ref 74, .ref 82]) rfl ?_
  refine wp_geti (a := 11) (nI n) hs rfl rfl rfl ?_
  refine wp_run 1 (pc' := 31) (ls' := [.ref 74, .int a, .int w]) (st' := [.int w, .int (nI n), .ref 82]) rfl ?_
  refine wp_ast rfl rfl rfl (by omega) rfl ?_
  refine wp_run 2 (pc' := 34) (ls' := [.ref 74, .int a, .int w]) (st' := [.ref 74, .ref 74]) rfl ?_
  refine wp_geti (a := 11) (nI n) hs rfl rfl rfl ?_
  refine wp_run 2 (pc' := 39) (ls' := [.ref 74, .int a, .int w]) (st' := [.int ((nI n) + 1), .ref 74]) rfl ?_
  rw [show (((nI n) + 1) : Int32) = (nI (n + 1)) from nI_add n 1]
  refine wp_puti rfl rfl ?_
  refine wp_retv rfl ?_
  exact kk
theorem sp_lays_n {L : Nat} {xs : Nat → Int32} {d ms b : Nat} {h : am_HI} {Q : am_Q} {X : am_HI} {n : Nat} {a w : Int32} (hs : X 74 11 = nI n) (hn : 60 ≤ n) (hn2 : n ≤ 60) (kk : Q none (am_S b) X) :
    am_wp L xs d 0 ms 171 0 [.ref 74, .int a, .int w] [] (am_S b) X Q := by
  refine wp_run 1 (pc' := 1) (ls' := [.ref 74, .int a, .int w]) (st' := [.ref 74]) rfl ?_
  refine wp_geti (a := 11) (nI n) hs rfl rfl rfl ?_
  refine wp_run 1 (pc' := 5) (ls' := [.ref 74, .int a, .int w]) (st' := [.ref 74, .int (nI n)]) rfl ?_
  refine wp_getr 81 rfl rfl rfl ?_
  refine wp_len rfl rfl ?_
  refine wp_icmp_t rfl (show (nI 60) ≤ (nI n) from (nI_leI (a := 60) (b := n) (by omega) (by omega)).mpr (by omega)) ?_
  refine wp_retv rfl ?_
  exact kk
theorem sp_lays_b {L : Nat} {xs : Nat → Int32} {d ms b : Nat} {Q : am_Q} {h X : am_HI} {tp p o : Nat} {a w : Int32} (hX : rf_bad h X tp p o) (kk : ∀ X2, rf_bad h X2 tp p o → Q none (am_S b) X2) :
    am_wp L xs d 0 ms 171 0 [.ref 74, .int a, .int w] [] (am_S b) X Q := by
  obtain ⟨n, hn, e⟩ := hX.2.1
  by_cases h60 : n < 60
  · exact sp_lays (h := h) e h60 (kk _ (rf_blay hX h60))
  · exact sp_lays_n (h := h) e (by omega) hn (kk _ hX)
theorem sp_lays_o {L : Nat} {xs : Nat → Int32} {d ms b : Nat} {Q : am_Q} {h X : am_HI} {tp p o : Nat} {c : List Int32} {a w : Int32} (it : Int32) (htp : tp ≤ 60) (hX : rf_st h X tp p o c) (hp : c.length < p) (ho : re_op a w it) (kk : ∀ X2, rf_st h X2 tp p o (c ++ [it]) → Q none (am_S b) X2) :
    am_wp L xs d 0 ms 171 0 [.ref 74, .int a, .int w] [] (am_S b) X Q := by
  have h7 := hX.2.2.2.2.2.2.1
  exact sp_lays (h := h) hX.2.1 (by omega) (kk _ (rf_lay hX hp ho))
theorem sp_m_nameOf {L : Nat} {xs : Nat → Int32} {d ms b : Nat} {Q : am_Q} {X : am_HI} {u : Nat} {v : Int32} (hu : u = 0 ∨ u = 1) (h15 : X 74 15 = nI u) (kt : ∀ k, tx_nm u v = some k → Q (some (.int (nI k))) (am_S b) X) (kf : tx_nm u v = none → Q (some (.int (-1))) (am_S b) X) :
    am_wp L xs d 0 ms 170 0 [.ref 74, .int v] [] (am_S b) X Q := by
  rcases hu with hu | hu <;> subst hu
  · skip
    refine wp_run 1 (pc' := 1) (ls' := [.ref 74, .int v]) (st' := [.int v]) rfl ?_
    refine wp_switch [(100, 129), (101, 163), (102, 163), (103, 96), (104, 163), (105, 163), (106, 163), (107, 163), (108, 163), (109, 163), (110, 96), (111, 129), (112, 163), (113, 163), (114, 163), (115, 96), (116, 163), (117, 163), (118, 163), (119, 129)] rfl rfl rfl ?_ ?_
    · refine List.forall_mem_cons.mpr ⟨fun (sw1 : v = _) => ?_, List.forall_mem_cons.mpr ⟨fun (sw1 : v = _) => ?_, List.forall_mem_cons.mpr ⟨fun (sw1 : v = _) => ?_, List.forall_mem_cons.mpr ⟨fun (sw1 : v = _) => ?_, List.forall_mem_cons.mpr ⟨fun (sw1 : v = _) => ?_, List.forall_mem_cons.mpr ⟨fun (sw1 : v = _) => ?_, List.forall_mem_cons.mpr ⟨fun (sw1 : v = _) => ?_, List.forall_mem_cons.mpr ⟨fun (sw1 : v = _) => ?_, List.forall_mem_cons.mpr ⟨fun (sw1 : v = _) => ?_, List.forall_mem_cons.mpr ⟨fun (sw1 : v = _) => ?_, List.forall_mem_cons.mpr ⟨fun (sw1 : v = _) => ?_, List.forall_mem_cons.mpr ⟨fun (sw1 : v = _) => ?_, List.forall_mem_cons.mpr ⟨fun (sw1 : v = _) => ?_, List.forall_mem_cons.mpr ⟨fun (sw1 : v = _) => ?_, List.forall_mem_cons.mpr ⟨fun (sw1 : v = _) => ?_, List.forall_mem_cons.mpr ⟨fun (sw1 : v = _) => ?_, List.forall_mem_cons.mpr ⟨fun (sw1 : v = _) => ?_, List.forall_mem_cons.mpr ⟨fun (sw1 : v = _) => ?_, List.forall_mem_cons.mpr ⟨fun (sw1 : v = _) => ?_, List.forall_mem_cons.mpr ⟨fun (sw1 : v = _) => ?_, fun _ h => absurd h List.not_mem_nil⟩⟩⟩⟩⟩⟩⟩⟩⟩⟩⟩⟩⟩⟩⟩⟩⟩⟩⟩⟩
      · skip
        have esw : v = 100 := sw1
        subst esw
        refine wp_run 1 (pc' := 130) (ls' := [.ref 74, .int 100]) (st' := [.ref 74]) rfl ?_
        refine wp_geti (a := 15) 0 h15 rfl rfl rfl ?_
        refine wp_run 1 (pc' := 134) (ls' := [.ref 74, .int 100]) (st' := [.int 1, .int 0]) rfl ?_
        refine wp_icmp_f rfl (show ¬ ((0 : Int32) = 1) from by decide) ?_
        refine wp_run 2 (pc' := 162) (ls' := [.ref 74, .int 100]) (st' := [.int (-1)]) rfl ?_
        refine wp_ret rfl ?_
        exact kf (by decide)
      · skip
        have esw : v = 101 := sw1
        subst esw
        refine wp_run 1 (pc' := 164) (ls' := [.ref 74, .int 101]) (st' := [.int (-1)]) rfl ?_
        refine wp_ret rfl ?_
        exact kf (by decide)
      · skip
        have esw : v = 102 := sw1
        subst esw
        refine wp_run 1 (pc' := 164) (ls' := [.ref 74, .int 102]) (st' := [.int (-1)]) rfl ?_
        refine wp_ret rfl ?_
        exact kf (by decide)
      · skip
        have esw : v = 103 := sw1
        subst esw
        refine wp_run 1 (pc' := 97) (ls' := [.ref 74, .int 103]) (st' := [.ref 74]) rfl ?_
        refine wp_geti (a := 15) 0 h15 rfl rfl rfl ?_
        refine wp_if_t rfl (show (0 : Int32) = 0 from by decide) ?_
        refine wp_run 2 (pc' := 110) (ls' := [.ref 74, .int 103]) (st' := [.int 103, .int 103]) rfl ?_
        refine wp_icmp_f rfl (show ¬ (¬ (103 : Int32) = 103) from by decide) ?_
        refine wp_run 2 (pc' := 128) (ls' := [.ref 74, .int 103]) (st' := [.int 0]) rfl ?_
        refine wp_ret rfl ?_
        exact kt 0 (by decide)
      · skip
        have esw : v = 104 := sw1
        subst esw
        refine wp_run 1 (pc' := 164) (ls' := [.ref 74, .int 104]) (st' := [.int (-1)]) rfl ?_
        refine wp_ret rfl ?_
        exact kf (by decide)
      · skip
        have esw : v = 105 := sw1
        subst esw
        refine wp_run 1 (pc' := 164) (ls' := [.ref 74, .int 105]) (st' := [.int (-1)]) rfl ?_
        refine wp_ret rfl ?_
        exact kf (by decide)
      · skip
        have esw : v = 106 := sw1
        subst esw
        refine wp_run 1 (pc' := 164) (ls' := [.ref 74, .int 106]) (st' := [.int (-1)]) rfl ?_
        refine wp_ret rfl ?_
        exact kf (by decide)
      · skip
        have esw : v = 107 := sw1
        subst esw
        refine wp_run 1 (pc' := 164) (ls' := [.ref 74, .int 107]) (st' := [.int (-1)]) rfl ?_
        refine wp_ret rfl ?_
        exact kf (by decide)
      · skip
        have esw : v = 108 := sw1
        subst esw
        refine wp_run 1 (pc' := 164) (ls' := [.ref 74, .int 108]) (st' := [.int (-1)]) rfl ?_
        refine wp_ret rfl ?_
        exact kf (by decide)
      · skip
        have esw : v = 109 := sw1
        subst esw
        refine wp_run 1 (pc' := 164) (ls' := [.ref 74, .int 109]) (st' := [.int (-1)]) rfl ?_
        refine wp_ret rfl ?_
        exact kf (by decide)
      · skip
        have esw : v = 110 := sw1
        subst esw
        refine wp_run 1 (pc' := 97) (ls' := [.ref 74, .int 110]) (st' := [.ref 74]) rfl ?_
        refine wp_geti (a := 15) 0 h15 rfl rfl rfl ?_
        refine wp_if_t rfl (show (0 : Int32) = 0 from by decide) ?_
        refine wp_run 2 (pc' := 110) (ls' := [.ref 74, .int 110]) (st' := [.int 103, .int 110]) rfl ?_
        refine wp_icmp_t rfl (show ¬ (110 : Int32) = 103 from by decide) ?_
        refine wp_run 2 (pc' := 120) (ls' := [.ref 74, .int 110]) (st' := [.int 115, .int 110]) rfl ?_
        refine wp_icmp_t rfl (show ¬ (110 : Int32) = 115 from by decide) ?_
        refine wp_run 1 (pc' := 128) (ls' := [.ref 74, .int 110]) (st' := [.int 2]) rfl ?_
        refine wp_ret rfl ?_
        exact kt 2 (by decide)
      · skip
        have esw : v = 111 := sw1
        subst esw
        refine wp_run 1 (pc' := 130) (ls' := [.ref 74, .int 111]) (st' := [.ref 74]) rfl ?_
        refine wp_geti (a := 15) 0 h15 rfl rfl rfl ?_
        refine wp_run 1 (pc' := 134) (ls' := [.ref 74, .int 111]) (st' := [.int 1, .int 0]) rfl ?_
        refine wp_icmp_f rfl (show ¬ ((0 : Int32) = 1) from by decide) ?_
        refine wp_run 2 (pc' := 162) (ls' := [.ref 74, .int 111]) (st' := [.int (-1)]) rfl ?_
        refine wp_ret rfl ?_
        exact kf (by decide)
      · skip
        have esw : v = 112 := sw1
        subst esw
        refine wp_run 1 (pc' := 164) (ls' := [.ref 74, .int 112]) (st' := [.int (-1)]) rfl ?_
        refine wp_ret rfl ?_
        exact kf (by decide)
      · skip
        have esw : v = 113 := sw1
        subst esw
        refine wp_run 1 (pc' := 164) (ls' := [.ref 74, .int 113]) (st' := [.int (-1)]) rfl ?_
        refine wp_ret rfl ?_
        exact kf (by decide)
      · skip
        have esw : v = 114 := sw1
        subst esw
        refine wp_run 1 (pc' := 164) (ls' := [.ref 74, .int 114]) (st' := [.int (-1)]) rfl ?_
        refine wp_ret rfl ?_
        exact kf (by decide)
      · skip
        have esw : v = 115 := sw1
        subst esw
        refine wp_run 1 (pc' := 97) (ls' := [.ref 74, .int 115]) (st' := [.ref 74]) rfl ?_
        refine wp_geti (a := 15) 0 h15 rfl rfl rfl ?_
        refine wp_if_t rfl (show (0 : Int32) = 0 from by decide) ?_
        refine wp_run 2 (pc' := 110) (ls' := [.ref 74, .int 115]) (st' := [.int 103, .int 115]) rfl ?_
        refine wp_icmp_t rfl (show ¬ (115 : Int32) = 103 from by decide) ?_
        refine wp_run 2 (pc' := 120) (ls' := [.ref 74, .int 115]) (st' := [.int 115, .int 115]) rfl ?_
        refine wp_icmp_f rfl (show ¬ (¬ (115 : Int32) = 115) from by decide) ?_
        refine wp_run 2 (pc' := 128) (ls' := [.ref 74, .int 115]) (st' := [.int 1]) rfl ?_
        refine wp_ret rfl ?_
        exact kt 1 (by decide)
      · skip
        have esw : v = 116 := sw1
        subst esw
        refine wp_run 1 (pc' := 164) (ls' := [.ref 74, .int 116]) (st' := [.int (-1)]) rfl ?_
        refine wp_ret rfl ?_
        exact kf (by decide)
      · skip
        have esw : v = 117 := sw1
        subst esw
        refine wp_run 1 (pc' := 164) (ls' := [.ref 74, .int 117]) (st' := [.int (-1)]) rfl ?_
        refine wp_ret rfl ?_
        exact kf (by decide)
      · skip
        have esw : v = 118 := sw1
        subst esw
        refine wp_run 1 (pc' := 164) (ls' := [.ref 74, .int 118]) (st' := [.int (-1)]) rfl ?_
        refine wp_ret rfl ?_
        exact kf (by decide)
      · skip
        have esw : v = 119 := sw1
        subst esw
        refine wp_run 1 (pc' := 130) (ls' := [.ref 74, .int 119]) (st' := [.ref 74]) rfl ?_
        refine wp_geti (a := 15) 0 h15 rfl rfl rfl ?_
        refine wp_run 1 (pc' := 134) (ls' := [.ref 74, .int 119]) (st' := [.int 1, .int 0]) rfl ?_
        refine wp_icmp_f rfl (show ¬ ((0 : Int32) = 1) from by decide) ?_
        refine wp_run 2 (pc' := 162) (ls' := [.ref 74, .int 119]) (st' := [.int (-1)]) rfl ?_
        refine wp_ret rfl ?_
        exact kf (by decide)
    · intro sw1
      simp only [List.forall_mem_cons] at sw1
      refine wp_run 1 (pc' := 164) (ls' := [.ref 74, .int v]) (st' := [.int (-1)]) rfl ?_
      refine wp_ret rfl ?_
      refine kf ?_
      unfold tx_nm
      simp [sw1]
  · skip
    refine wp_run 1 (pc' := 1) (ls' := [.ref 74, .int v]) (st' := [.int v]) rfl ?_
    refine wp_switch [(100, 129), (101, 163), (102, 163), (103, 96), (104, 163), (105, 163), (106, 163), (107, 163), (108, 163), (109, 163), (110, 96), (111, 129), (112, 163), (113, 163), (114, 163), (115, 96), (116, 163), (117, 163), (118, 163), (119, 129)] rfl rfl rfl ?_ ?_
    · refine List.forall_mem_cons.mpr ⟨fun (sw1 : v = _) => ?_, List.forall_mem_cons.mpr ⟨fun (sw1 : v = _) => ?_, List.forall_mem_cons.mpr ⟨fun (sw1 : v = _) => ?_, List.forall_mem_cons.mpr ⟨fun (sw1 : v = _) => ?_, List.forall_mem_cons.mpr ⟨fun (sw1 : v = _) => ?_, List.forall_mem_cons.mpr ⟨fun (sw1 : v = _) => ?_, List.forall_mem_cons.mpr ⟨fun (sw1 : v = _) => ?_, List.forall_mem_cons.mpr ⟨fun (sw1 : v = _) => ?_, List.forall_mem_cons.mpr ⟨fun (sw1 : v = _) => ?_, List.forall_mem_cons.mpr ⟨fun (sw1 : v = _) => ?_, List.forall_mem_cons.mpr ⟨fun (sw1 : v = _) => ?_, List.forall_mem_cons.mpr ⟨fun (sw1 : v = _) => ?_, List.forall_mem_cons.mpr ⟨fun (sw1 : v = _) => ?_, List.forall_mem_cons.mpr ⟨fun (sw1 : v = _) => ?_, List.forall_mem_cons.mpr ⟨fun (sw1 : v = _) => ?_, List.forall_mem_cons.mpr ⟨fun (sw1 : v = _) => ?_, List.forall_mem_cons.mpr ⟨fun (sw1 : v = _) => ?_, List.forall_mem_cons.mpr ⟨fun (sw1 : v = _) => ?_, List.forall_mem_cons.mpr ⟨fun (sw1 : v = _) => ?_, List.forall_mem_cons.mpr ⟨fun (sw1 : v = _) => ?_, fun _ h => absurd h List.not_mem_nil⟩⟩⟩⟩⟩⟩⟩⟩⟩⟩⟩⟩⟩⟩⟩⟩⟩⟩⟩⟩
      · skip
        have esw : v = 100 := sw1
        subst esw
        refine wp_run 1 (pc' := 130) (ls' := [.ref 74, .int 100]) (st' := [.ref 74]) rfl ?_
        refine wp_geti (a := 15) 1 h15 rfl rfl rfl ?_
        refine wp_run 1 (pc' := 134) (ls' := [.ref 74, .int 100]) (st' := [.int 1, .int 1]) rfl ?_
        refine wp_icmp_t rfl (show (1 : Int32) = 1 from by decide) ?_
        refine wp_run 2 (pc' := 144) (ls' := [.ref 74, .int 100]) (st' := [.int 100, .int 100]) rfl ?_
        refine wp_icmp_f rfl (show ¬ (¬ (100 : Int32) = 100) from by decide) ?_
        refine wp_run 2 (pc' := 162) (ls' := [.ref 74, .int 100]) (st' := [.int 0]) rfl ?_
        refine wp_ret rfl ?_
        exact kt 0 (by decide)
      · skip
        have esw : v = 101 := sw1
        subst esw
        refine wp_run 1 (pc' := 164) (ls' := [.ref 74, .int 101]) (st' := [.int (-1)]) rfl ?_
        refine wp_ret rfl ?_
        exact kf (by decide)
      · skip
        have esw : v = 102 := sw1
        subst esw
        refine wp_run 1 (pc' := 164) (ls' := [.ref 74, .int 102]) (st' := [.int (-1)]) rfl ?_
        refine wp_ret rfl ?_
        exact kf (by decide)
      · skip
        have esw : v = 103 := sw1
        subst esw
        refine wp_run 1 (pc' := 97) (ls' := [.ref 74, .int 103]) (st' := [.ref 74]) rfl ?_
        refine wp_geti (a := 15) 1 h15 rfl rfl rfl ?_
        refine wp_if_f rfl (show ¬ ((1 : Int32) = 0) from by decide) ?_
        refine wp_run 2 (pc' := 128) (ls' := [.ref 74, .int 103]) (st' := [.int (-1)]) rfl ?_
        refine wp_ret rfl ?_
        exact kf (by decide)
      · skip
        have esw : v = 104 := sw1
        subst esw
        refine wp_run 1 (pc' := 164) (ls' := [.ref 74, .int 104]) (st' := [.int (-1)]) rfl ?_
        refine wp_ret rfl ?_
        exact kf (by decide)
      · skip
        have esw : v = 105 := sw1
        subst esw
        refine wp_run 1 (pc' := 164) (ls' := [.ref 74, .int 105]) (st' := [.int (-1)]) rfl ?_
        refine wp_ret rfl ?_
        exact kf (by decide)
      · skip
        have esw : v = 106 := sw1
        subst esw
        refine wp_run 1 (pc' := 164) (ls' := [.ref 74, .int 106]) (st' := [.int (-1)]) rfl ?_
        refine wp_ret rfl ?_
        exact kf (by decide)
      · skip
        have esw : v = 107 := sw1
        subst esw
        refine wp_run 1 (pc' := 164) (ls' := [.ref 74, .int 107]) (st' := [.int (-1)]) rfl ?_
        refine wp_ret rfl ?_
        exact kf (by decide)
      · skip
        have esw : v = 108 := sw1
        subst esw
        refine wp_run 1 (pc' := 164) (ls' := [.ref 74, .int 108]) (st' := [.int (-1)]) rfl ?_
        refine wp_ret rfl ?_
        exact kf (by decide)
      · skip
        have esw : v = 109 := sw1
        subst esw
        refine wp_run 1 (pc' := 164) (ls' := [.ref 74, .int 109]) (st' := [.int (-1)]) rfl ?_
        refine wp_ret rfl ?_
        exact kf (by decide)
      · skip
        have esw : v = 110 := sw1
        subst esw
        refine wp_run 1 (pc' := 97) (ls' := [.ref 74, .int 110]) (st' := [.ref 74]) rfl ?_
        refine wp_geti (a := 15) 1 h15 rfl rfl rfl ?_
        refine wp_if_f rfl (show ¬ ((1 : Int32) = 0) from by decide) ?_
        refine wp_run 2 (pc' := 128) (ls' := [.ref 74, .int 110]) (st' := [.int (-1)]) rfl ?_
        refine wp_ret rfl ?_
        exact kf (by decide)
      · skip
        have esw : v = 111 := sw1
        subst esw
        refine wp_run 1 (pc' := 130) (ls' := [.ref 74, .int 111]) (st' := [.ref 74]) rfl ?_
        refine wp_geti (a := 15) 1 h15 rfl rfl rfl ?_
        refine wp_run 1 (pc' := 134) (ls' := [.ref 74, .int 111]) (st' := [.int 1, .int 1]) rfl ?_
        refine wp_icmp_t rfl (show (1 : Int32) = 1 from by decide) ?_
        refine wp_run 2 (pc' := 144) (ls' := [.ref 74, .int 111]) (st' := [.int 100, .int 111]) rfl ?_
        refine wp_icmp_t rfl (show ¬ (111 : Int32) = 100 from by decide) ?_
        refine wp_run 2 (pc' := 154) (ls' := [.ref 74, .int 111]) (st' := [.int 119, .int 111]) rfl ?_
        refine wp_icmp_t rfl (show ¬ (111 : Int32) = 119 from by decide) ?_
        refine wp_run 1 (pc' := 162) (ls' := [.ref 74, .int 111]) (st' := [.int 2]) rfl ?_
        refine wp_ret rfl ?_
        exact kt 2 (by decide)
      · skip
        have esw : v = 112 := sw1
        subst esw
        refine wp_run 1 (pc' := 164) (ls' := [.ref 74, .int 112]) (st' := [.int (-1)]) rfl ?_
        refine wp_ret rfl ?_
        exact kf (by decide)
      · skip
        have esw : v = 113 := sw1
        subst esw
        refine wp_run 1 (pc' := 164) (ls' := [.ref 74, .int 113]) (st' := [.int (-1)]) rfl ?_
        refine wp_ret rfl ?_
        exact kf (by decide)
      · skip
        have esw : v = 114 := sw1
        subst esw
        refine wp_run 1 (pc' := 164) (ls' := [.ref 74, .int 114]) (st' := [.int (-1)]) rfl ?_
        refine wp_ret rfl ?_
        exact kf (by decide)
      · skip
        have esw : v = 115 := sw1
        subst esw
        refine wp_run 1 (pc' := 97) (ls' := [.ref 74, .int 115]) (st' := [.ref 74]) rfl ?_
        refine wp_geti (a := 15) 1 h15 rfl rfl rfl ?_
        refine wp_if_f rfl (show ¬ ((1 : Int32) = 0) from by decide) ?_
        refine wp_run 2 (pc' := 128) (ls' := [.ref 74, .int 115]) (st' := [.int (-1)]) rfl ?_
        refine wp_ret rfl ?_
        exact kf (by decide)
      · skip
        have esw : v = 116 := sw1
        subst esw
        refine wp_run 1 (pc' := 164) (ls' := [.ref 74, .int 116]) (st' := [.int (-1)]) rfl ?_
        refine wp_ret rfl ?_
        exact kf (by decide)
      · skip
        have esw : v = 117 := sw1
        subst esw
        refine wp_run 1 (pc' := 164) (ls' := [.ref 74, .int 117]) (st' := [.int (-1)]) rfl ?_
        refine wp_ret rfl ?_
        exact kf (by decide)
      · skip
        have esw : v = 118 := sw1
        subst esw
        refine wp_run 1 (pc' := 164) (ls' := [.ref 74, .int 118]) (st' := [.int (-1)]) rfl ?_
        refine wp_ret rfl ?_
        exact kf (by decide)
      · skip
        have esw : v = 119 := sw1
        subst esw
        refine wp_run 1 (pc' := 130) (ls' := [.ref 74, .int 119]) (st' := [.ref 74]) rfl ?_
        refine wp_geti (a := 15) 1 h15 rfl rfl rfl ?_
        refine wp_run 1 (pc' := 134) (ls' := [.ref 74, .int 119]) (st' := [.int 1, .int 1]) rfl ?_
        refine wp_icmp_t rfl (show (1 : Int32) = 1 from by decide) ?_
        refine wp_run 2 (pc' := 144) (ls' := [.ref 74, .int 119]) (st' := [.int 100, .int 119]) rfl ?_
        refine wp_icmp_t rfl (show ¬ (119 : Int32) = 100 from by decide) ?_
        refine wp_run 2 (pc' := 154) (ls' := [.ref 74, .int 119]) (st' := [.int 119, .int 119]) rfl ?_
        refine wp_icmp_f rfl (show ¬ (¬ (119 : Int32) = 119) from by decide) ?_
        refine wp_run 2 (pc' := 162) (ls' := [.ref 74, .int 119]) (st' := [.int 1]) rfl ?_
        refine wp_ret rfl ?_
        exact kt 1 (by decide)
    · intro sw1
      simp only [List.forall_mem_cons] at sw1
      refine wp_run 1 (pc' := 164) (ls' := [.ref 74, .int v]) (st' := [.int (-1)]) rfl ?_
      refine wp_ret rfl ?_
      refine kf ?_
      unfold tx_nm
      simp [sw1]
theorem tx_numI {v q : Nat} (h : 48 ≤ q) : (nI (10 * v) + nI q) - 48 = nI (v * 10 + (q - 48)) := by
  rw [nI_add, show (48 : Int32) = nI 48 from rfl, pk_sub (by omega)]
  congr 1
  omega
theorem tx_num_s {B : Nat → Int32} {tp k v p : Nat} (h : p < tp ∧ tx_dig (B p) = true) : tx_num B tp (k + 1) v p = tx_num B tp k (v * 10 + ((B p).toNatClampNeg - 48)) (p + 1) := if_pos h
theorem tx_num_n {B : Nat → Int32} {tp k v p : Nat} (h : ¬ (p < tp ∧ tx_dig (B p) = true)) : tx_num B tp (k + 1) v p = (v, p) := if_neg h
theorem lp_mnum {L : Nat} {xs : Nat → Int32} {d ms b : Nat} {Q : am_Q} {h : am_HI} {B : Nat → Int32} {tp : Nat} (htp : tp ≤ 60) (h5 : h 75 5 = nI tp) (hB : ∀ i, i < tp → h 75 (56 + i) = B i) (hd : 2 ≤ d) :
    ∀ (k n v p o : Nat) (c : List Int32) (X : am_HI), n + k = 4 → rf_st h X tp p o c → (kk : ∀ X2, rf_st h X2 tp (tx_num B tp k v p).2 o c → am_wp L xs d 0 ms 173 52 [.ref 74, .int (nI (tx_num B tp k v p).1), .int (nI (n + ((tx_num B tp k v p).2 - p)))] [] (am_S b) X2 Q) → am_wp L xs d 0 ms 173 4 [.ref 74, .int (nI v), .int (nI n)] [] (am_S b) X Q := by
  intro k
  induction k with
  | zero =>
    intro n v p o c X hn hX kk
    have e75 := hX.1.1 75 rfl
    refine wp_run 2 (pc' := 6) (ls' := [.ref 74, .int (nI v), .int (nI n)]) (st' := [.int 4, .int (nI n)]) rfl ?_
    refine wp_icmp_t rfl (show 4 ≤ (nI n) from (nI_leI (a := 4) (b := n) (by omega) (by omega)).mpr (by omega)) ?_
    have q := kk X hX
    rw [show n + ((tx_num B tp 0 v p).2 - p) = n from by show n + (p - p) = n; omega] at q
    exact q
  | succ k ih =>
    intro n v p o c X hn hX kk
    have e75 := hX.1.1 75 rfl
    refine wp_run 2 (pc' := 6) (ls' := [.ref 74, .int (nI v), .int (nI n)]) (st' := [.int 4, .int (nI n)]) rfl ?_
    refine wp_icmp_f rfl (show ¬ (4 ≤ (nI n)) from mt (nI_leI (a := 4) (b := n) (by omega) (by omega)).mp (by omega)) ?_
    refine wp_run 1 (pc' := 10) (ls' := [.ref 74, .int (nI v), .int (nI n)]) (st' := [.ref 74]) rfl ?_
    refine wp_callV (o := 74) (as := []) (rest := []) (els := [.ref 74]) rfl rfl rfl rfl rfl rfl rfl rfl (by omega) ?_
    refine sp_look (h := h) (B := B) (tp := tp) (p := p) htp (by rw [e75]; exact h5) (by rw [e75]; exact hB) hX.2.2.1 hX.2.2.2.2.2.2.1 ?_
    show am_wp L xs _ _ _ _ 13 [.ref 74, .int (nI v), .int (nI n)] [.int (tx_lk B tp p)] (am_S b) X _
    refine wp_run 2 (pc' := 17) (ls' := [.ref 74, .int (nI v), .int (nI n)]) (st' := [.int 57, .int 48, .int (tx_lk B tp p)]) rfl ?_
    refine wp_callS (as := [.int (tx_lk B tp p), .int 48, .int 57]) (rest := []) (els := [.int (tx_lk B tp p), .int 48, .int 57]) rfl rfl rfl rfl rfl rfl rfl rfl (by omega) ?_
    refine sp_m_in (fun q => ?_) (fun q => ?_)
    · skip
      have hdg := tx_lk_dig.mp q
      obtain ⟨q9, q91, q92, eq9⟩ := tx_dig_n hdg.2
      show am_wp L xs _ _ _ _ 20 [.ref 74, .int (nI v), .int (nI n)] [.int 1] (am_S b) X _
      refine wp_if_f rfl (show ¬ ((1 : Int32) = 0) from by decide) ?_
      refine wp_run 4 (pc' := 28) (ls' := [.ref 74, .int (nI v), .int (nI n)]) (st' := [.ref 74, .int (10 * (nI v))]) rfl ?_
      rw [show ((10 * (nI v)) : Int32) = (nI (10 * v)) from pk_mul 10 v]
      refine wp_callV (o := 74) (as := []) (rest := [.int (nI (10 * v))]) (els := [.ref 74]) rfl rfl rfl rfl rfl rfl rfl rfl (by omega) ?_
      refine sp_look (h := h) (B := B) (tp := tp) (p := p) htp (by rw [e75]; exact h5) (by rw [e75]; exact hB) hX.2.2.1 hX.2.2.2.2.2.2.1 ?_
      show am_wp L xs _ _ _ _ 31 [.ref 74, .int (nI v), .int (nI n)] [.int (tx_lk B tp p), .int (nI (10 * v))] (am_S b) X _
      refine wp_run 6 (pc' := 38) (ls' := [.ref 74, .int (((nI (10 * v)) + (tx_lk B tp p)) - 48), .int (nI n)]) (st' := [.ref 74, .ref 74]) rfl ?_
      refine wp_geti (a := 12) (nI p) hX.2.2.1 rfl rfl rfl ?_
      refine wp_run 2 (pc' := 43) (ls' := [.ref 74, .int (((nI (10 * v)) + (tx_lk B tp p)) - 48), .int (nI n)]) (st' := [.int ((nI p) + 1), .ref 74]) rfl ?_
      rw [show (((nI p) + 1) : Int32) = (nI (p + 1)) from nI_add p 1]
      refine wp_puti rfl rfl ?_
      refine wp_run 2 (pc' := 4) (ls' := [.ref 74, .int (((nI (10 * v)) + (tx_lk B tp p)) - 48), .int ((nI n) + 1)]) (st' := []) rfl ?_
      rw [show (((nI n) + 1) : Int32) = (nI (n + 1)) from nI_add n 1]
      rw [show ((((nI (10 * v)) + (tx_lk B tp p)) - 48) : Int32) = nI (v * 10 + ((B p).toNatClampNeg - 48)) from by rw [tx_lk_in hdg.1, eq9, nI_clamp (by omega)]; exact tx_numI q91]
      have hle := (tx_num_le (B := B) (tp := tp) k (v * 10 + ((B p).toNatClampNeg - 48)) (p + 1) (by omega)).1
      refine ih (n + 1) _ (p + 1) o c _ (by omega) (rf_p hX (by omega) (by omega)) (fun X2 hX2 => ?_)
      rw [tx_num_s hdg] at kk
      have q2 := kk X2 hX2
      rw [show n + ((tx_num B tp k (v * 10 + ((B p).toNatClampNeg - 48)) (p + 1)).2 - p) = n + 1 + ((tx_num B tp k (v * 10 + ((B p).toNatClampNeg - 48)) (p + 1)).2 - (p + 1)) from by omega] at q2
      exact q2
    · skip
      have hdg : ¬ (p < tp ∧ tx_dig (B p) = true) := fun q2 => q (tx_lk_dig.mpr q2)
      show am_wp L xs _ _ _ _ 20 [.ref 74, .int (nI v), .int (nI n)] [.int 0] (am_S b) X _
      refine wp_if_t rfl (show (0 : Int32) = 0 from by decide) ?_
      rw [tx_num_n hdg] at kk
      have q := kk X hX
      rw [show n + ((v, p).2 - p) = n from by show n + (p - p) = n; omega] at q
      exact q
