/-! reading a text: the class's small parts -/
theorem tx_so_op {l : Nat} (hl : 1 ≤ l) : ∀ (s c : List Int32), tx_op (tx_so l s c).2 = tx_op s
  | [], _ => rfl
  | x :: r, c => by
    by_cases h : l ≤ tx_lev x
    · have e : tx_so l (x :: r) c = tx_so l r (c ++ [-x]) := if_pos h
      rw [e, tx_so_op hl r, tx_op_lev (by omega)]
    · have e : tx_so l (x :: r) c = (c, x :: r) := if_neg h
      rw [e]
theorem tx_so_len {l : Nat} : ∀ (s c : List Int32), (tx_so l s c).1.length + (tx_so l s c).2.length = c.length + s.length
  | [], _ => rfl
  | x :: r, c => by
    by_cases h : l ≤ tx_lev x
    · have e : tx_so l (x :: r) c = tx_so l r (c ++ [-x]) := if_pos h
      rw [e, tx_so_len r, List.length_append]
      show c.length + 1 + r.length = c.length + (r.length + 1)
      omega
    · have e : tx_so l (x :: r) c = (c, x :: r) := if_neg h
      rw [e]
theorem tx_cn_len : ∀ (s c : List Int32), (tx_cn s c).1.length + (tx_cn s c).2.length = c.length + s.length
  | [], _ => rfl
  | x :: r, c => by
    by_cases h : x = 33
    · have e : tx_cn (x :: r) c = tx_cn r (c ++ [-33]) := if_pos h
      rw [e, tx_cn_len r, List.length_append]
      show c.length + 1 + r.length = c.length + (r.length + 1)
      omega
    · have e : tx_cn (x :: r) c = (c, x :: r) := if_neg h
      rw [e]
theorem tx_hd_40 {s : List Int32} (h : tx_hd s = 40) : ∃ r, s = 40 :: r := by
  cases s with
  | nil => exact absurd h (by decide)
  | cons x r => exact ⟨r, by rw [show x = 40 from h]⟩
theorem tx_st_ok {B : Nat → Int32} {tp u p : Nat} {w : Bool} {c s : List Int32} {S2 : tx_S} (htp : tp ≤ 60) (hp : p < tp) (hl : c.length + s.length ≤ p) (h : tx_st B tp u (w, c, s, p) = some S2) : p < S2.2.2.2 ∧ S2.2.2.2 ≤ tp ∧ S2.2.1.length + S2.2.2.1.length ≤ S2.2.2.2 := by
  have hdn : ∀ (c2 s2 : List Int32) (p2 : Nat), c2.length + s2.length ≤ p2 → (tx_dn c2 s2 p2).2.1.length + (tx_dn c2 s2 p2).2.2.1.length ≤ p2 := fun c2 s2 p2 q => by
    show (tx_cn s2 c2).1.length + (tx_cn s2 c2).2.length ≤ p2
    rw [tx_cn_len]
    exact q
  cases w with
  | true =>
    have h' : tx_pt B tp u c s p = some S2 := h
    unfold tx_pt at h'
    split at h'
    · rename_i hd
      cases h'
      have h1 : p < (tx_num B tp 4 0 p).2 := tx_num_lt hp hd
      exact ⟨h1, (tx_num_le 4 0 p (by omega)).2, hdn _ _ _ (by rw [List.length_append]; show c.length + 1 + s.length ≤ _; omega)⟩
    · split at h'
      · cases h'
        exact ⟨Nat.lt_succ_self p, hp, hdn _ _ _ (by rw [List.length_append]; show c.length + 1 + s.length ≤ _; omega)⟩
      · split at h'
        · cases h'
          exact ⟨Nat.lt_succ_self p, hp, by show c.length + (s.length + 1) ≤ p + 1; omega⟩
        · cases h'
  | false =>
    have h' : tx_sg B c s p = some S2 := h
    unfold tx_sg at h'
    split at h'
    · split at h'
      · cases h'
        refine ⟨Nat.lt_succ_self p, hp, hdn _ _ _ ?_⟩
        have := tx_so_len (l := 1) s c
        have e : (tx_so 1 s c).2.tail.length ≤ (tx_so 1 s c).2.length := by rw [List.length_tail]; omega
        omega
      · cases h'
    · split at h'
      · cases h'
      · split at h'
        · split at h'
          · cases h'
          · cases h'
            refine ⟨Nat.lt_succ_self p, hp, ?_⟩
            have := tx_so_len (l := 4) s c
            show (tx_so 4 s c).1.length + ((tx_so 4 s c).2.length + 1) ≤ p + 1
            omega
        · cases h'
          refine ⟨Nat.lt_succ_self p, hp, ?_⟩
          have := tx_so_len (l := tx_lev (B p)) s c
          show (tx_so (tx_lev (B p)) s c).1.length + ((tx_so (tx_lev (B p)) s c).2.length + 1) ≤ p + 1
          omega
def cr_st (h X : am_HI) (u o : Nat) (S : tx_S) : Prop := (∀ a, [56, 57, 58, 59, 60].elem a = false → X a = h a) ∧ X 56 3 = nI u ∧ X 56 4 = nI S.2.2.2 ∧ X 56 5 = nI o ∧ X 56 6 = (if S.1 = true then 1 else 0) ∧ X 57 1 = nI S.2.1.length ∧ (∀ i (hi : i < S.2.1.length), X 58 i = S.2.1[i]) ∧ X 59 1 = nI S.2.2.1.length ∧ pu_rp (X 60) S.2.2.1
section Cr
variable {h X : am_HI} {u o p : Nat} {w : Bool} {c s : List Int32}
theorem cr_off (h1 : ∀ a, [56, 57, 58, 59, 60].elem a = false → X a = h a) {k i : Nat} {v : Int32} (hk : [56, 57, 58, 59, 60].elem k = true) : ∀ a, [56, 57, 58, 59, 60].elem a = false → am_u X k i v a = h a := fun a ha => (am_u_off _ _ _ (am_nel ha hk)).trans (h1 a ha)
theorem cr_pop {x : Int32} (hX : cr_st h X u o (w, c, x :: s, p)) : cr_st h (am_u X 59 1 (nI s.length)) u o (w, c, s, p) := by
  obtain ⟨a1, a2, a3, a4, a5, a6, a7, a8, a9⟩ := hX
  exact ⟨cr_off a1 rfl, a2, a3, a4, a5, a6, a7, rfl, a9.2⟩
theorem cr_out {v : Int32} (hX : cr_st h X u o (w, c, s, p)) : cr_st h (am_u (am_u X 58 c.length v) 57 1 (nI (c.length + 1))) u o (w, c ++ [v], s, p) := by
  obtain ⟨a1, a2, a3, a4, a5, a6, a7, a8, a9⟩ := hX
  refine ⟨cr_off (cr_off a1 rfl) rfl, a2, a3, a4, a5, by show nI (c.length + 1) = nI (c ++ [v]).length; rw [List.length_append]; rfl, fun i hi => ?_, a8, a9⟩
  show upd (X 58) c.length v i = (c ++ [v])[i]
  have hi' : i < (c ++ [v]).length := hi
  by_cases e : i = c.length
  · subst e
    rw [pk_us, List.getElem_append_right (Nat.le_refl _)]
    simp
  · have hi2 : i < c.length := by
      rw [List.length_append] at hi'
      have : [v].length = 1 := rfl
      omega
    rw [pk_un e, List.getElem_append_left hi2]
    exact a7 i hi2
theorem cr_push {v : Int32} (hX : cr_st h X u o (w, c, s, p)) : cr_st h (am_u (am_u X 60 s.length v) 59 1 (nI (s.length + 1))) u o (w, c, v :: s, p) := by
  obtain ⟨a1, a2, a3, a4, a5, a6, a7, a8, a9⟩ := hX
  exact ⟨cr_off (cr_off a1 rfl) rfl, a2, a3, a4, a5, a6, a7, rfl, pu_rp_push a9⟩
theorem cr_o {o2 : Nat} (hX : cr_st h X u o (w, c, s, p)) : cr_st h (am_u X 56 5 (nI o2)) u o2 (w, c, s, p) := by
  obtain ⟨a1, a2, a3, a4, a5, a6, a7, a8, a9⟩ := hX
  exact ⟨cr_off a1 rfl, a2, a3, rfl, a5, a6, a7, a8, a9⟩
theorem cr_p {p2 : Nat} (hX : cr_st h X u o (w, c, s, p)) : cr_st h (am_u X 56 4 (nI p2)) u o (w, c, s, p2) := by
  obtain ⟨a1, a2, a3, a4, a5, a6, a7, a8, a9⟩ := hX
  exact ⟨cr_off a1 rfl, a2, rfl, a4, a5, a6, a7, a8, a9⟩
theorem cr_w1 (hX : cr_st h X u o (w, c, s, p)) : cr_st h (am_u X 56 6 1) u o (true, c, s, p) := by
  obtain ⟨a1, a2, a3, a4, a5, a6, a7, a8, a9⟩ := hX
  exact ⟨cr_off a1 rfl, a2, a3, a4, rfl, a6, a7, a8, a9⟩
theorem cr_w0 (hX : cr_st h X u o (w, c, s, p)) : cr_st h (am_u X 56 6 0) u o (false, c, s, p) := by
  obtain ⟨a1, a2, a3, a4, a5, a6, a7, a8, a9⟩ := hX
  exact ⟨cr_off a1 rfl, a2, a3, a4, rfl, a6, a7, a8, a9⟩
end Cr
def tx_bh (B : Nat → Int32) (tp p : Nat) : Int32 := if p < tp then B p else 0
theorem tx_bh_dig {B : Nat → Int32} {tp p : Nat} : tx_dig (tx_bh B tp p) = true ↔ (p < tp ∧ tx_dig (B p) = true) := by
  unfold tx_bh
  by_cases h : p < tp
  · rw [if_pos h]
    exact ⟨fun q => ⟨h, q⟩, fun q => q.2⟩
  · rw [if_neg h]
    exact ⟨fun q => absurd q (by decide), fun q => absurd q.1 h⟩
theorem sp_byteHere {L : Nat} {xs : Nat → Int32} {d ms : Nat} {Q : am_Q} {X : am_HI} {B : Nat → Int32} {tp p : Nat} (htp : tp ≤ 60) (h9 : X 9 1 = nI tp) (hB : ∀ i, i < tp → X 10 i = B i) (hp : X 56 4 = nI p) (hpt : p ≤ tp) (kk : Q (some (.int (tx_bh B tp p))) (am_S 10) X) :
    am_wp L xs d 0 ms 52 0 [.ref 56] [] (am_S 10) X Q := by
  refine wp_run 1 (pc' := 1) (ls' := [.ref 56]) (st' := [.ref 56]) rfl ?_
  refine wp_geti (a := 4) (nI p) hp rfl rfl rfl ?_
  refine wp_run 1 (pc' := 5) (ls' := [.ref 56]) (st' := [.ref 56, .int (nI p)]) rfl ?_
  refine wp_getr 9 rfl rfl rfl ?_
  refine wp_geti (a := 1) (nI tp) h9 rfl rfl rfl ?_
  refine wp_icmp rfl (fun (cq11 : (nI tp) ≤ (nI p)) => ?_) (fun (cq11 : ¬ ((nI tp) ≤ (nI p))) => ?_)
  · skip
    have cq11n : tp ≤ p := (nI_leI (a := tp) (b := p) (by omega) (by omega)).mp cq11
    refine wp_run 1 (pc' := 30) (ls' := [.ref 56]) (st' := [.int 0]) rfl ?_
    refine wp_ret rfl ?_
    rw [show tx_bh B tp p = 0 from if_neg (by omega)] at kk
    exact kk
  · skip
    have cq11n : ¬ (tp ≤ p) := fun q => cq11 ((nI_leI (a := tp) (b := p) (by omega) (by omega)).mpr q)
    refine wp_run 1 (pc' := 15) (ls' := [.ref 56]) (st' := [.ref 56]) rfl ?_
    refine wp_getr 9 rfl rfl rfl ?_
    refine wp_getr 10 rfl rfl rfl ?_
    refine wp_run 1 (pc' := 22) (ls' := [.ref 56]) (st' := [.ref 56, .ref 10]) rfl ?_
    refine wp_geti (a := 4) (nI p) hp rfl rfl rfl ?_
    refine wp_ald (i := p) (B p) (hB p (by omega)) rfl rfl rfl (by omega) rfl ?_
    refine wp_run 1 (pc' := 30) (ls' := [.ref 56]) (st' := [.int (B p)]) rfl ?_
    refine wp_ret rfl ?_
    rw [show tx_bh B tp p = (B p) from if_pos (by omega)] at kk
    exact kk
theorem sp_isDigit {L : Nat} {xs : Nat → Int32} {d ms : Nat} {Q : am_Q} {X : am_HI} {sh : am_SH} {v : Int32} (hd : 1 ≤ d) (kt : tx_dig v = true → Q (some (.int 1)) sh X) (kf : tx_dig v = false → Q (some (.int 0)) sh X) :
    am_wp L xs d 0 ms 53 0 [.int v] [] sh X Q := by
  refine wp_run 3 (pc' := 5) (ls' := [.int v]) (st' := [.int 57, .int 48, .int v]) rfl ?_
  refine wp_callS (as := [.int v, .int 48, .int 57]) (rest := []) (els := [.int v, .int 48, .int 57]) rfl rfl rfl rfl rfl rfl rfl rfl (by omega) ?_
  refine sp_x_within (fun q => ?_) (fun q => ?_)
  · skip
    show am_wp L xs _ _ _ _ 8 [.int v] [.int 1] sh X _
    refine wp_retz rfl (Or.inr rfl) ?_
    exact kt (by unfold tx_dig; rw [decide_eq_true q.1, decide_eq_true q.2]; rfl)
  · skip
    show am_wp L xs _ _ _ _ 8 [.int v] [.int 0] sh X _
    refine wp_retz rfl (Or.inl rfl) ?_
    exact kf (by unfold tx_dig; rw [← Bool.not_eq_true, Bool.and_eq_true, decide_eq_true_eq, decide_eq_true_eq]; exact q)
theorem sp_levelOf {L : Nat} {xs : Nat → Int32} {d ms : Nat} {Q : am_Q} {X : am_HI} {sh : am_SH} {v : Int32} (kk : Q (some (.int (nI (tx_lev v)))) sh X) :
    am_wp L xs d 0 ms 62 0 [.int v] [] sh X Q := by
  refine wp_run 1 (pc' := 1) (ls' := [.int v]) (st' := [.int v]) rfl ?_
  refine wp_switch [(37, 100), (38, 94), (42, 100), (43, 98), (45, 98), (47, 100), (60, 96), (61, 96), (62, 96), (124, 92)] rfl rfl rfl ?_ ?_
  · refine List.forall_mem_cons.mpr ⟨fun (sw1 : v = _) => ?_, List.forall_mem_cons.mpr ⟨fun (sw1 : v = _) => ?_, List.forall_mem_cons.mpr ⟨fun (sw1 : v = _) => ?_, List.forall_mem_cons.mpr ⟨fun (sw1 : v = _) => ?_, List.forall_mem_cons.mpr ⟨fun (sw1 : v = _) => ?_, List.forall_mem_cons.mpr ⟨fun (sw1 : v = _) => ?_, List.forall_mem_cons.mpr ⟨fun (sw1 : v = _) => ?_, List.forall_mem_cons.mpr ⟨fun (sw1 : v = _) => ?_, List.forall_mem_cons.mpr ⟨fun (sw1 : v = _) => ?_, List.forall_mem_cons.mpr ⟨fun (sw1 : v = _) => ?_, fun _ h => absurd h List.not_mem_nil⟩⟩⟩⟩⟩⟩⟩⟩⟩⟩
    · skip
      have esw : v = 37 := sw1
      subst esw
      refine wp_run 1 (pc' := 101) (ls' := [.int 37]) (st' := [.int 5]) rfl ?_
      refine wp_ret rfl ?_
      exact kk
    · skip
      have esw : v = 38 := sw1
      subst esw
      refine wp_run 1 (pc' := 95) (ls' := [.int 38]) (st' := [.int 2]) rfl ?_
      refine wp_ret rfl ?_
      exact kk
    · skip
      have esw : v = 42 := sw1
      subst esw
      refine wp_run 1 (pc' := 101) (ls' := [.int 42]) (st' := [.int 5]) rfl ?_
      refine wp_ret rfl ?_
      exact kk
    · skip
      have esw : v = 43 := sw1
      subst esw
      refine wp_run 1 (pc' := 99) (ls' := [.int 43]) (st' := [.int 4]) rfl ?_
      refine wp_ret rfl ?_
      exact kk
    · skip
      have esw : v = 45 := sw1
      subst esw
      refine wp_run 1 (pc' := 99) (ls' := [.int 45]) (st' := [.int 4]) rfl ?_
      refine wp_ret rfl ?_
      exact kk
    · skip
      have esw : v = 47 := sw1
      subst esw
      refine wp_run 1 (pc' := 101) (ls' := [.int 47]) (st' := [.int 5]) rfl ?_
      refine wp_ret rfl ?_
      exact kk
    · skip
      have esw : v = 60 := sw1
      subst esw
      refine wp_run 1 (pc' := 97) (ls' := [.int 60]) (st' := [.int 3]) rfl ?_
      refine wp_ret rfl ?_
      exact kk
    · skip
      have esw : v = 61 := sw1
      subst esw
      refine wp_run 1 (pc' := 97) (ls' := [.int 61]) (st' := [.int 3]) rfl ?_
      refine wp_ret rfl ?_
      exact kk
    · skip
      have esw : v = 62 := sw1
      subst esw
      refine wp_run 1 (pc' := 97) (ls' := [.int 62]) (st' := [.int 3]) rfl ?_
      refine wp_ret rfl ?_
      exact kk
    · skip
      have esw : v = 124 := sw1
      subst esw
      refine wp_run 1 (pc' := 93) (ls' := [.int 124]) (st' := [.int 1]) rfl ?_
      refine wp_ret rfl ?_
      exact kk
  · intro sw1
    simp only [List.forall_mem_cons] at sw1
    refine wp_run 1 (pc' := 103) (ls' := [.int v]) (st' := [.int 0]) rfl ?_
    refine wp_ret rfl ?_
    rw [show tx_lev v = 0 from by unfold tx_lev; simp [sw1]] at kk
    exact kk
theorem sp_nameOf {L : Nat} {xs : Nat → Int32} {d ms : Nat} {Q : am_Q} {X : am_HI} {u : Nat} {v : Int32} (hu : u = 0 ∨ u = 1) (h3 : X 56 3 = nI u) (kt : ∀ k, tx_nm u v = some k → Q (some (.int (nI k))) (am_S 10) X) (kf : tx_nm u v = none → Q (some (.int (-1))) (am_S 10) X) :
    am_wp L xs d 0 ms 58 0 [.ref 56, .int v, am_du, am_du] [] (am_S 10) X Q := by
  rcases hu with hu | hu <;> subst hu
  · skip
    refine wp_run 4 (pc' := 4) (ls' := [.ref 56, .int v, .int 0, am_du]) (st' := [.int 3, .int 0]) rfl ?_
    refine wp_icmp_f rfl (show ¬ (3 ≤ (0 : Int32)) from by decide) ?_
    refine wp_run 1 (pc' := 8) (ls' := [.ref 56, .int v, .int 0, am_du]) (st' := [.ref 56]) rfl ?_
    refine wp_geti (a := 3) 0 h3 rfl rfl rfl ?_
    refine wp_run 6 (pc' := 17) (ls' := [.ref 56, .int v, .int 0, .int ((0 * 3) + 0)]) (st' := [.int ((0 * 3) + 0)]) rfl ?_
    rw [show ((0 * 3) : Int32) = 0 from by decide]
    rw [show ((0 + 0) : Int32) = 0 from by decide]
    refine wp_if_f rfl (show ¬ ((0 : Int32) < 0) from by decide) ?_
    refine wp_run 1 (pc' := 21) (ls' := [.ref 56, .int v, .int 0, .int 0]) (st' := [.int 0]) rfl ?_
    refine wp_gets rfl ?_
    refine wp_len3 rfl ?_
    refine wp_icmp_f rfl (show ¬ ((nI 6) ≤ (0 : Int32)) from by decide) ?_
    refine wp_gets rfl ?_
    refine wp_run 1 (pc' := 32) (ls' := [.ref 56, .int v, .int 0, .int 0]) (st' := [.int 0, .ref 1003]) rfl ?_
    refine wp_ald3 103 rfl rfl rfl (by decide) ?_
    refine wp_run 1 (pc' := 34) (ls' := [.ref 56, .int v, .int 0, .int 0]) (st' := [.int v, .int 103]) rfl ?_
    refine wp_icmp rfl (fun (cn103 : ¬ (103 : Int32) = v) => ?_) (fun (cn103 : ¬ (¬ (103 : Int32) = v)) => ?_)
    · skip
      have n103 : ¬ v = 103 := fun q => cn103 q.symm
      refine wp_run 4 (pc' := 4) (ls' := [.ref 56, .int v, .int (0 + 1), .int 0]) (st' := [.int 3, .int (0 + 1)]) rfl ?_
      rw [show ((0 + 1) : Int32) = 1 from by decide]
      refine wp_icmp_f rfl (show ¬ (3 ≤ (1 : Int32)) from by decide) ?_
      refine wp_run 1 (pc' := 8) (ls' := [.ref 56, .int v, .int 1, .int 0]) (st' := [.ref 56]) rfl ?_
      refine wp_geti (a := 3) 0 h3 rfl rfl rfl ?_
      refine wp_run 6 (pc' := 17) (ls' := [.ref 56, .int v, .int 1, .int ((0 * 3) + 1)]) (st' := [.int ((0 * 3) + 1)]) rfl ?_
      rw [show ((0 * 3) : Int32) = 0 from by decide]
      rw [show ((0 + 1) : Int32) = 1 from by decide]
      refine wp_if_f rfl (show ¬ ((1 : Int32) < 0) from by decide) ?_
      refine wp_run 1 (pc' := 21) (ls' := [.ref 56, .int v, .int 1, .int 1]) (st' := [.int 1]) rfl ?_
      refine wp_gets rfl ?_
      refine wp_len3 rfl ?_
      refine wp_icmp_f rfl (show ¬ ((nI 6) ≤ (1 : Int32)) from by decide) ?_
      refine wp_gets rfl ?_
      refine wp_run 1 (pc' := 32) (ls' := [.ref 56, .int v, .int 1, .int 1]) (st' := [.int 1, .ref 1003]) rfl ?_
      refine wp_ald3 115 rfl rfl rfl (by decide) ?_
      refine wp_run 1 (pc' := 34) (ls' := [.ref 56, .int v, .int 1, .int 1]) (st' := [.int v, .int 115]) rfl ?_
      refine wp_icmp rfl (fun (cn115 : ¬ (115 : Int32) = v) => ?_) (fun (cn115 : ¬ (¬ (115 : Int32) = v)) => ?_)
      · skip
        have n115 : ¬ v = 115 := fun q => cn115 q.symm
        refine wp_run 4 (pc' := 4) (ls' := [.ref 56, .int v, .int (1 + 1), .int 1]) (st' := [.int 3, .int (1 + 1)]) rfl ?_
        rw [show ((1 + 1) : Int32) = 2 from by decide]
        refine wp_icmp_f rfl (show ¬ (3 ≤ (2 : Int32)) from by decide) ?_
        refine wp_run 1 (pc' := 8) (ls' := [.ref 56, .int v, .int 2, .int 1]) (st' := [.ref 56]) rfl ?_
        refine wp_geti (a := 3) 0 h3 rfl rfl rfl ?_
        refine wp_run 6 (pc' := 17) (ls' := [.ref 56, .int v, .int 2, .int ((0 * 3) + 2)]) (st' := [.int ((0 * 3) + 2)]) rfl ?_
        rw [show ((0 * 3) : Int32) = 0 from by decide]
        rw [show ((0 + 2) : Int32) = 2 from by decide]
        refine wp_if_f rfl (show ¬ ((2 : Int32) < 0) from by decide) ?_
        refine wp_run 1 (pc' := 21) (ls' := [.ref 56, .int v, .int 2, .int 2]) (st' := [.int 2]) rfl ?_
        refine wp_gets rfl ?_
        refine wp_len3 rfl ?_
        refine wp_icmp_f rfl (show ¬ ((nI 6) ≤ (2 : Int32)) from by decide) ?_
        refine wp_gets rfl ?_
        refine wp_run 1 (pc' := 32) (ls' := [.ref 56, .int v, .int 2, .int 2]) (st' := [.int 2, .ref 1003]) rfl ?_
        refine wp_ald3 110 rfl rfl rfl (by decide) ?_
        refine wp_run 1 (pc' := 34) (ls' := [.ref 56, .int v, .int 2, .int 2]) (st' := [.int v, .int 110]) rfl ?_
        refine wp_icmp rfl (fun (cn110 : ¬ (110 : Int32) = v) => ?_) (fun (cn110 : ¬ (¬ (110 : Int32) = v)) => ?_)
        · skip
          have n110 : ¬ v = 110 := fun q => cn110 q.symm
          refine wp_run 4 (pc' := 4) (ls' := [.ref 56, .int v, .int (2 + 1), .int 2]) (st' := [.int 3, .int (2 + 1)]) rfl ?_
          rw [show ((2 + 1) : Int32) = 3 from by decide]
          refine wp_icmp_t rfl (show 3 ≤ (3 : Int32) from by decide) ?_
          refine wp_run 1 (pc' := 46) (ls' := [.ref 56, .int v, .int 3, .int 2]) (st' := [.int (-1)]) rfl ?_
          refine wp_ret rfl ?_
          refine kf ?_
          unfold tx_nm
          simp [n103, n115, n110]
        · skip
          replace cn110 := Decidable.not_not.mp cn110
          have e110 : v = 110 := cn110.symm
          subst e110
          refine wp_run 1 (pc' := 38) (ls' := [.ref 56, .int 110, .int 2, .int 2]) (st' := [.int 2]) rfl ?_
          refine wp_ret rfl ?_
          exact kt 2 (by decide)
      · skip
        replace cn115 := Decidable.not_not.mp cn115
        have e115 : v = 115 := cn115.symm
        subst e115
        refine wp_run 1 (pc' := 38) (ls' := [.ref 56, .int 115, .int 1, .int 1]) (st' := [.int 1]) rfl ?_
        refine wp_ret rfl ?_
        exact kt 1 (by decide)
    · skip
      replace cn103 := Decidable.not_not.mp cn103
      have e103 : v = 103 := cn103.symm
      subst e103
      refine wp_run 1 (pc' := 38) (ls' := [.ref 56, .int 103, .int 0, .int 0]) (st' := [.int 0]) rfl ?_
      refine wp_ret rfl ?_
      exact kt 0 (by decide)
  · skip
    refine wp_run 4 (pc' := 4) (ls' := [.ref 56, .int v, .int 0, am_du]) (st' := [.int 3, .int 0]) rfl ?_
    refine wp_icmp_f rfl (show ¬ (3 ≤ (0 : Int32)) from by decide) ?_
    refine wp_run 1 (pc' := 8) (ls' := [.ref 56, .int v, .int 0, am_du]) (st' := [.ref 56]) rfl ?_
    refine wp_geti (a := 3) 1 h3 rfl rfl rfl ?_
    refine wp_run 6 (pc' := 17) (ls' := [.ref 56, .int v, .int 0, .int ((1 * 3) + 0)]) (st' := [.int ((1 * 3) + 0)]) rfl ?_
    rw [show ((1 * 3) : Int32) = 3 from by decide]
    rw [show ((3 + 0) : Int32) = 3 from by decide]
    refine wp_if_f rfl (show ¬ ((3 : Int32) < 0) from by decide) ?_
    refine wp_run 1 (pc' := 21) (ls' := [.ref 56, .int v, .int 0, .int 3]) (st' := [.int 3]) rfl ?_
    refine wp_gets rfl ?_
    refine wp_len3 rfl ?_
    refine wp_icmp_f rfl (show ¬ ((nI 6) ≤ (3 : Int32)) from by decide) ?_
    refine wp_gets rfl ?_
    refine wp_run 1 (pc' := 32) (ls' := [.ref 56, .int v, .int 0, .int 3]) (st' := [.int 3, .ref 1003]) rfl ?_
    refine wp_ald3 100 rfl rfl rfl (by decide) ?_
    refine wp_run 1 (pc' := 34) (ls' := [.ref 56, .int v, .int 0, .int 3]) (st' := [.int v, .int 100]) rfl ?_
    refine wp_icmp rfl (fun (cn100 : ¬ (100 : Int32) = v) => ?_) (fun (cn100 : ¬ (¬ (100 : Int32) = v)) => ?_)
    · skip
      have n100 : ¬ v = 100 := fun q => cn100 q.symm
      refine wp_run 4 (pc' := 4) (ls' := [.ref 56, .int v, .int (0 + 1), .int 3]) (st' := [.int 3, .int (0 + 1)]) rfl ?_
      rw [show ((0 + 1) : Int32) = 1 from by decide]
      refine wp_icmp_f rfl (show ¬ (3 ≤ (1 : Int32)) from by decide) ?_
      refine wp_run 1 (pc' := 8) (ls' := [.ref 56, .int v, .int 1, .int 3]) (st' := [.ref 56]) rfl ?_
      refine wp_geti (a := 3) 1 h3 rfl rfl rfl ?_
      refine wp_run 6 (pc' := 17) (ls' := [.ref 56, .int v, .int 1, .int ((1 * 3) + 1)]) (st' := [.int ((1 * 3) + 1)]) rfl ?_
      rw [show ((1 * 3) : Int32) = 3 from by decide]
      rw [show ((3 + 1) : Int32) = 4 from by decide]
      refine wp_if_f rfl (show ¬ ((4 : Int32) < 0) from by decide) ?_
      refine wp_run 1 (pc' := 21) (ls' := [.ref 56, .int v, .int 1, .int 4]) (st' := [.int 4]) rfl ?_
      refine wp_gets rfl ?_
      refine wp_len3 rfl ?_
      refine wp_icmp_f rfl (show ¬ ((nI 6) ≤ (4 : Int32)) from by decide) ?_
      refine wp_gets rfl ?_
      refine wp_run 1 (pc' := 32) (ls' := [.ref 56, .int v, .int 1, .int 4]) (st' := [.int 4, .ref 1003]) rfl ?_
      refine wp_ald3 119 rfl rfl rfl (by decide) ?_
      refine wp_run 1 (pc' := 34) (ls' := [.ref 56, .int v, .int 1, .int 4]) (st' := [.int v, .int 119]) rfl ?_
      refine wp_icmp rfl (fun (cn119 : ¬ (119 : Int32) = v) => ?_) (fun (cn119 : ¬ (¬ (119 : Int32) = v)) => ?_)
      · skip
        have n119 : ¬ v = 119 := fun q => cn119 q.symm
        refine wp_run 4 (pc' := 4) (ls' := [.ref 56, .int v, .int (1 + 1), .int 4]) (st' := [.int 3, .int (1 + 1)]) rfl ?_
        rw [show ((1 + 1) : Int32) = 2 from by decide]
        refine wp_icmp_f rfl (show ¬ (3 ≤ (2 : Int32)) from by decide) ?_
        refine wp_run 1 (pc' := 8) (ls' := [.ref 56, .int v, .int 2, .int 4]) (st' := [.ref 56]) rfl ?_
        refine wp_geti (a := 3) 1 h3 rfl rfl rfl ?_
        refine wp_run 6 (pc' := 17) (ls' := [.ref 56, .int v, .int 2, .int ((1 * 3) + 2)]) (st' := [.int ((1 * 3) + 2)]) rfl ?_
        rw [show ((1 * 3) : Int32) = 3 from by decide]
        rw [show ((3 + 2) : Int32) = 5 from by decide]
        refine wp_if_f rfl (show ¬ ((5 : Int32) < 0) from by decide) ?_
        refine wp_run 1 (pc' := 21) (ls' := [.ref 56, .int v, .int 2, .int 5]) (st' := [.int 5]) rfl ?_
        refine wp_gets rfl ?_
        refine wp_len3 rfl ?_
        refine wp_icmp_f rfl (show ¬ ((nI 6) ≤ (5 : Int32)) from by decide) ?_
        refine wp_gets rfl ?_
        refine wp_run 1 (pc' := 32) (ls' := [.ref 56, .int v, .int 2, .int 5]) (st' := [.int 5, .ref 1003]) rfl ?_
        refine wp_ald3 111 rfl rfl rfl (by decide) ?_
        refine wp_run 1 (pc' := 34) (ls' := [.ref 56, .int v, .int 2, .int 5]) (st' := [.int v, .int 111]) rfl ?_
        refine wp_icmp rfl (fun (cn111 : ¬ (111 : Int32) = v) => ?_) (fun (cn111 : ¬ (¬ (111 : Int32) = v)) => ?_)
        · skip
          have n111 : ¬ v = 111 := fun q => cn111 q.symm
          refine wp_run 4 (pc' := 4) (ls' := [.ref 56, .int v, .int (2 + 1), .int 5]) (st' := [.int 3, .int (2 + 1)]) rfl ?_
          rw [show ((2 + 1) : Int32) = 3 from by decide]
          refine wp_icmp_t rfl (show 3 ≤ (3 : Int32) from by decide) ?_
          refine wp_run 1 (pc' := 46) (ls' := [.ref 56, .int v, .int 3, .int 5]) (st' := [.int (-1)]) rfl ?_
          refine wp_ret rfl ?_
          refine kf ?_
          unfold tx_nm
          simp [n100, n119, n111]
        · skip
          replace cn111 := Decidable.not_not.mp cn111
          have e111 : v = 111 := cn111.symm
          subst e111
          refine wp_run 1 (pc' := 38) (ls' := [.ref 56, .int 111, .int 2, .int 5]) (st' := [.int 2]) rfl ?_
          refine wp_ret rfl ?_
          exact kt 2 (by decide)
      · skip
        replace cn119 := Decidable.not_not.mp cn119
        have e119 : v = 119 := cn119.symm
        subst e119
        refine wp_run 1 (pc' := 38) (ls' := [.ref 56, .int 119, .int 1, .int 4]) (st' := [.int 1]) rfl ?_
        refine wp_ret rfl ?_
        exact kt 1 (by decide)
    · skip
      replace cn100 := Decidable.not_not.mp cn100
      have e100 : v = 100 := cn100.symm
      subst e100
      refine wp_run 1 (pc' := 38) (ls' := [.ref 56, .int 100, .int 0, .int 3]) (st' := [.int 0]) rfl ?_
      refine wp_ret rfl ?_
      exact kt 0 (by decide)
