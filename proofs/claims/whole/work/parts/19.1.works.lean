/-! the reference: works, gives, who wears, what is worn -/
theorem am_ur_u (h : am_HI) (a i : Nat) (f : Nat → Int32) (v : Int32) : am_u (am_ur h a f) a i v = am_ur h a (upd f i v) := by
  funext q j
  unfold am_u am_ur
  by_cases e : q = a
  · subst e
    simp
  · simp [e]
theorem am_ur_self (h : am_HI) (a : Nat) : h = am_ur h a (h a) := by
  funext q j
  unfold am_ur
  by_cases e : q = a
  · subst e
    simp
  · simp [e]
theorem re_sg_pos {a : Int32} (h : re_sg a) : a ≠ 1 ∧ a ≠ 2 ∧ a ≠ 3 := by rcases h with e | e | e | e | e | e | e | e | e | e <;> subst e <;> decide
theorem re_sg_dp {a it : Int32} (h : re_sg a) (e : it = -a) {d d2 : Nat} (hd : pu_dp it d = some d2) : 2 ≤ d := by
  subst e
  have h1 : ¬ (0 ≤ -a) ∧ ¬ (-3 ≤ -a) ∧ ¬ (-a = -33) := by rcases h with e | e | e | e | e | e | e | e | e | e <;> subst e <;> decide
  unfold pu_dp at hd
  rw [if_neg h1.1, if_neg h1.2.1, if_neg h1.2.2] at hd
  split at hd
  · assumption
  · cases hd
theorem re_sg_st {a it : Int32} (h : re_sg a) (e : it = -a) (x y z w v : Int32) (r : List Int32) : pu_st x y z it (w :: v :: r) = pu_j a v w :: r := by
  subst e
  have h1 : ¬ (0 ≤ -a) ∧ ¬ (-3 ≤ -a) ∧ ¬ (-a = -33) ∧ - -a = a := by rcases h with e | e | e | e | e | e | e | e | e | e <;> subst e <;> decide
  unfold pu_st
  rw [if_neg h1.1, if_neg h1.2.1]
  dsimp only
  rw [if_neg h1.2.2.1, h1.2.2.2]
theorem re_dp_push {it : Int32} {d d2 : Nat} (h : -3 ≤ it) (hd : pu_dp it d = some d2) : d < 60 := by
  unfold pu_dp at hd
  split at hd
  · split at hd
    · assumption
    · cases hd
  · try rw [if_pos h] at hd
    split at hd
    · assumption
    · cases hd
theorem lp_works140 {L : Nat} {xs : Nat → Int32} {d ms b : Nat} {h : am_HI} {Q : am_Q} {p : List Int32} {a b2 c : Int32} (hm : h 75 140 = nI p.length) (hops : ∀ i (hi : i < p.length), re_op (h 75 (141 + i)) (h 75 (201 + i)) p[i]) (hl : p.length ≤ 60) (hw0 : pu_wf p 0 = some 1) (ha : h 83 0 = a) (hb2 : h 83 1 = b2) (hc : h 83 2 = c) (hd : 1 ≤ d) (kk : ∀ f, Q (some (.int (pu_val p a b2 c))) (am_S b) (am_ur h 84 f)) :
    ∀ (q : List Int32) (i : Nat) (st : List Int32) (f : Nat → Int32) (u4 : Value), i + q.length = p.length → (∀ j (hj : j < q.length), ∃ hj2 : i + j < p.length, p[i + j] = q[j]) → pu_wf q st.length = some 1 → pu_rp f st → st.length ≤ 60 → pu_run a b2 c q st = pu_run a b2 c p [] →
    am_wp L xs d 0 ms 142 4 [.ref 74, .int 140, .int (nI st.length), .int (nI i), u4] [] (am_S b) (am_ur h 84 f) Q := by
  intro q
  induction q with
  | nil =>
    intro i st f u4 hi hq hw hrp hlen hrun
    have hi : i = p.length := by simpa using hi
    have h1 : st.length = 1 := by simpa [pu_wf] using hw
    obtain ⟨y, r, rfl⟩ : ∃ y r, st = y :: r := by cases st with | nil => simp at h1 | cons y r => exact ⟨y, r, rfl⟩
    have hr0 : r.length = 0 := by simpa using h1
    have hval : pu_val p a b2 c = y := by unfold pu_val; rw [← hrun]; rfl
    refine wp_run 2 (pc' := 6) (ls' := [.ref 74, .int 140, .int (nI ((y :: r).length)), .int (nI i), u4]) (st' := [.ref 74, .int (nI i)]) rfl ?_
    refine wp_getr 75 rfl rfl rfl ?_
    refine wp_run 1 (pc' := 10) (ls' := [.ref 74, .int 140, .int (nI ((y :: r).length)), .int (nI i), u4]) (st' := [.int 140, .ref 75, .int (nI i)]) rfl ?_
    refine wp_ald (i := 140) (nI p.length) hm rfl rfl rfl (by decide) rfl ?_
    refine wp_icmp_t rfl (show (nI p.length) ≤ (nI i) from (nI_leI (a := p.length) (b := i) (by omega) (by omega)).mpr (by omega)) ?_
    refine wp_run 1 (pc' := 156) (ls' := [.ref 74, .int 140, .int (nI ((y :: r).length)), .int (nI i), u4]) (st' := [.ref 74]) rfl ?_
    refine wp_getr 84 rfl rfl rfl ?_
    refine wp_run 1 (pc' := 160) (ls' := [.ref 74, .int 140, .int (nI ((y :: r).length)), .int (nI i), u4]) (st' := [.int 0, .ref 84]) rfl ?_
    refine wp_ald (i := 0) y (by rw [am_ur_row, ← hr0]; exact hrp.1) rfl rfl rfl (by decide) rfl ?_
    refine wp_ret rfl ?_
    rw [← hval]
    exact kk f
  | cons it q ih =>
    intro i st f u4 hi hq hw hrp hlen hrun
    simp only [List.length_cons] at hi
    have hil : i < p.length := by omega
    have hit : p[i] = it := by obtain ⟨hj2, e⟩ := hq 0 (by simp); simpa using e
    have hop := hops i hil
    rw [hit] at hop
    have hq2 : ∀ j (hj : j < q.length), ∃ hj2 : i + 1 + j < p.length, p[i + 1 + j] = q[j] := fun j hj => by obtain ⟨hj2, e⟩ := hq (j + 1) (by simp; omega); refine ⟨by omega, ?_⟩; simp only [List.getElem_cons_succ] at e; rw [← e]; congr 1; omega
    unfold pu_wf at hw
    cases hdp : pu_dp it st.length with
    | none => rw [hdp] at hw; cases hw
    | some d2 =>
    rw [hdp] at hw
    dsimp only at hw
    have hsl : (pu_st a b2 c it st).length = d2 := pu_dp_len hdp
    have hd60 : d2 ≤ 60 := pu_dp_le hdp hlen
    rcases hop with ⟨ea, ew, h0⟩ | ⟨ea, k, hk, ew, eit⟩ | ⟨ea, eit⟩ | ⟨eit, ea⟩
    · have hd1 := re_dp_push (Int32.le_trans (by decide) h0) hdp
      refine wp_run 2 (pc' := 6) (ls' := [.ref 74, .int 140, .int (nI st.length), .int (nI i), u4]) (st' := [.ref 74, .int (nI i)]) rfl ?_
      refine wp_getr 75 rfl rfl rfl ?_
      refine wp_run 1 (pc' := 10) (ls' := [.ref 74, .int 140, .int (nI st.length), .int (nI i), u4]) (st' := [.int 140, .ref 75, .int (nI i)]) rfl ?_
      refine wp_ald (i := 140) (nI p.length) hm rfl rfl rfl (by decide) rfl ?_
      refine wp_icmp_f rfl (show ¬ ((nI p.length) ≤ (nI i)) from mt (nI_leI (a := p.length) (b := i) (by omega) (by omega)).mp (by omega)) ?_
      refine wp_run 1 (pc' := 15) (ls' := [.ref 74, .int 140, .int (nI st.length), .int (nI i), u4]) (st' := [.ref 74]) rfl ?_
      refine wp_getr 75 rfl rfl rfl ?_
      refine wp_run 5 (pc' := 23) (ls' := [.ref 74, .int 140, .int (nI st.length), .int (nI i), u4]) (st' := [.int ((140 + 1) + (nI i)), .ref 75]) rfl ?_
      rw [show ((140 + 1) : Int32) = 141 from by decide]
      rw [show ((141 + (nI i)) : Int32) = (nI (141 + i)) from nI_add 141 i]
      refine wp_ald (i := (141 + i)) 1 ea rfl rfl rfl (by omega) rfl ?_
      refine wp_run 3 (pc' := 29) (ls' := [.ref 74, .int 140, .int (nI st.length), .int (nI i), .int 1]) (st' := [.int 1, .int 1]) rfl ?_
      refine wp_icmp_t rfl (show (1 : Int32) = 1 from by decide) ?_
      refine wp_run 1 (pc' := 39) (ls' := [.ref 74, .int 140, .int (nI st.length), .int (nI i), .int 1]) (st' := [.ref 74]) rfl ?_
      refine wp_getr 84 rfl rfl rfl ?_
      refine wp_run 3 (pc' := 46) (ls' := [.ref 74, .int 140, .int (nI st.length), .int (nI i), .int 1]) (st' := [.int 1, .int 1, .int (nI st.length), .ref 84]) rfl ?_
      refine wp_icmp_f rfl (show ¬ (¬ (1 : Int32) = 1) from by decide) ?_
      refine wp_run 1 (pc' := 50) (ls' := [.ref 74, .int 140, .int (nI st.length), .int (nI i), .int 1]) (st' := [.ref 74, .int (nI st.length), .ref 84]) rfl ?_
      refine wp_getr 75 rfl rfl rfl ?_
      refine wp_run 5 (pc' := 59) (ls' := [.ref 74, .int 140, .int (nI st.length), .int (nI i), .int 1]) (st' := [.int ((140 + 61) + (nI i)), .ref 75, .int (nI st.length), .ref 84]) rfl ?_
      rw [show ((140 + 61) : Int32) = 201 from by decide]
      rw [show ((201 + (nI i)) : Int32) = (nI (201 + i)) from nI_add 201 i]
      refine wp_ald (i := (201 + i)) it ew rfl rfl rfl (by omega) rfl ?_
      refine wp_run 1 (pc' := 79) (ls' := [.ref 74, .int 140, .int (nI st.length), .int (nI i), .int 1]) (st' := [.int it, .int (nI st.length), .ref 84]) rfl ?_
      refine wp_ast rfl rfl rfl (by omega) rfl ?_
      refine wp_run 4 (pc' := 4) (ls' := [.ref 74, .int 140, .int ((nI st.length) + 1), .int ((nI i) + 1), .int 1]) (st' := []) rfl ?_
      rw [show (((nI st.length) + 1) : Int32) = (nI (st.length + 1)) from nI_add st.length 1]
      rw [show (((nI i) + 1) : Int32) = (nI (i + 1)) from nI_add i 1]
      rw [am_ur_u]
      have est : pu_st a b2 c it st = it :: st := by unfold pu_st; rw [if_pos h0]
      exact ih (i + 1) (it :: st) (upd f st.length it) _ (by omega) hq2 (by rw [← est, hsl]; exact hw) (pu_rp_push hrp) (by rw [← est, hsl]; exact hd60) (by rw [← est]; exact hrun)
    · have hk3 : k = 0 ∨ k = 1 ∨ k = 2 := by omega
      rcases hk3 with e3 | e3 | e3 <;> subst e3
      · have eit2 : it = (-1) := by rw [eit]; decide
        subst eit2
        have hd1 := re_dp_push (by decide) hdp
        refine wp_run 2 (pc' := 6) (ls' := [.ref 74, .int 140, .int (nI st.length), .int (nI i), u4]) (st' := [.ref 74, .int (nI i)]) rfl ?_
        refine wp_getr 75 rfl rfl rfl ?_
        refine wp_run 1 (pc' := 10) (ls' := [.ref 74, .int 140, .int (nI st.length), .int (nI i), u4]) (st' := [.int 140, .ref 75, .int (nI i)]) rfl ?_
        refine wp_ald (i := 140) (nI p.length) hm rfl rfl rfl (by decide) rfl ?_
        refine wp_icmp_f rfl (show ¬ ((nI p.length) ≤ (nI i)) from mt (nI_leI (a := p.length) (b := i) (by omega) (by omega)).mp (by omega)) ?_
        refine wp_run 1 (pc' := 15) (ls' := [.ref 74, .int 140, .int (nI st.length), .int (nI i), u4]) (st' := [.ref 74]) rfl ?_
        refine wp_getr 75 rfl rfl rfl ?_
        refine wp_run 5 (pc' := 23) (ls' := [.ref 74, .int 140, .int (nI st.length), .int (nI i), u4]) (st' := [.int ((140 + 1) + (nI i)), .ref 75]) rfl ?_
        rw [show ((140 + 1) : Int32) = 141 from by decide]
        rw [show ((141 + (nI i)) : Int32) = (nI (141 + i)) from nI_add 141 i]
        refine wp_ald (i := (141 + i)) 2 ea rfl rfl rfl (by omega) rfl ?_
        refine wp_run 3 (pc' := 29) (ls' := [.ref 74, .int 140, .int (nI st.length), .int (nI i), .int 2]) (st' := [.int 1, .int 2]) rfl ?_
        refine wp_icmp_f rfl (show ¬ ((2 : Int32) = 1) from by decide) ?_
        refine wp_run 2 (pc' := 35) (ls' := [.ref 74, .int 140, .int (nI st.length), .int (nI i), .int 2]) (st' := [.int 2, .int 2]) rfl ?_
        refine wp_icmp_f rfl (show ¬ (¬ (2 : Int32) = 2) from by decide) ?_
        refine wp_run 1 (pc' := 39) (ls' := [.ref 74, .int 140, .int (nI st.length), .int (nI i), .int 2]) (st' := [.ref 74]) rfl ?_
        refine wp_getr 84 rfl rfl rfl ?_
        refine wp_run 3 (pc' := 46) (ls' := [.ref 74, .int 140, .int (nI st.length), .int (nI i), .int 2]) (st' := [.int 1, .int 2, .int (nI st.length), .ref 84]) rfl ?_
        refine wp_icmp_t rfl (show ¬ (2 : Int32) = 1 from by decide) ?_
        refine wp_run 1 (pc' := 64) (ls' := [.ref 74, .int 140, .int (nI st.length), .int (nI i), .int 2]) (st' := [.ref 74, .int (nI st.length), .ref 84]) rfl ?_
        refine wp_getr 83 rfl rfl rfl ?_
        refine wp_run 1 (pc' := 68) (ls' := [.ref 74, .int 140, .int (nI st.length), .int (nI i), .int 2]) (st' := [.ref 74, .ref 83, .int (nI st.length), .ref 84]) rfl ?_
        refine wp_getr 75 rfl rfl rfl ?_
        refine wp_run 5 (pc' := 77) (ls' := [.ref 74, .int 140, .int (nI st.length), .int (nI i), .int 2]) (st' := [.int ((140 + 61) + (nI i)), .ref 75, .ref 83, .int (nI st.length), .ref 84]) rfl ?_
        rw [show ((140 + 61) : Int32) = 201 from by decide]
        rw [show ((201 + (nI i)) : Int32) = (nI (201 + i)) from nI_add 201 i]
        refine wp_ald (i := (201 + i)) 0 ew rfl rfl rfl (by omega) rfl ?_
        refine wp_ald (i := 0) a ha rfl rfl rfl (by decide) rfl ?_
        refine wp_ast rfl rfl rfl (by omega) rfl ?_
        refine wp_run 4 (pc' := 4) (ls' := [.ref 74, .int 140, .int ((nI st.length) + 1), .int ((nI i) + 1), .int 2]) (st' := []) rfl ?_
        rw [show (((nI st.length) + 1) : Int32) = (nI (st.length + 1)) from nI_add st.length 1]
        rw [show (((nI i) + 1) : Int32) = (nI (i + 1)) from nI_add i 1]
        rw [am_ur_u]
        have est : pu_st a b2 c (-1) st = a :: st := by simp (decide := true) [pu_st]
        exact ih (i + 1) (a :: st) (upd f st.length a) _ (by omega) hq2 (by rw [← est, hsl]; exact hw) (pu_rp_push hrp) (by rw [← est, hsl]; exact hd60) (by rw [← est]; exact hrun)
      · have eit2 : it = (-2) := by rw [eit]; decide
        subst eit2
        have hd1 := re_dp_push (by decide) hdp
        refine wp_run 2 (pc' := 6) (ls' := [.ref 74, .int 140, .int (nI st.length), .int (nI i), u4]) (st' := [.ref 74, .int (nI i)]) rfl ?_
        refine wp_getr 75 rfl rfl rfl ?_
        refine wp_run 1 (pc' := 10) (ls' := [.ref 74, .int 140, .int (nI st.length), .int (nI i), u4]) (st' := [.int 140, .ref 75, .int (nI i)]) rfl ?_
        refine wp_ald (i := 140) (nI p.length) hm rfl rfl rfl (by decide) rfl ?_
        refine wp_icmp_f rfl (show ¬ ((nI p.length) ≤ (nI i)) from mt (nI_leI (a := p.length) (b := i) (by omega) (by omega)).mp (by omega)) ?_
        refine wp_run 1 (pc' := 15) (ls' := [.ref 74, .int 140, .int (nI st.length), .int (nI i), u4]) (st' := [.ref 74]) rfl ?_
        refine wp_getr 75 rfl rfl rfl ?_
        refine wp_run 5 (pc' := 23) (ls' := [.ref 74, .int 140, .int (nI st.length), .int (nI i), u4]) (st' := [.int ((140 + 1) + (nI i)), .ref 75]) rfl ?_
        rw [show ((140 + 1) : Int32) = 141 from by decide]
        rw [show ((141 + (nI i)) : Int32) = (nI (141 + i)) from nI_add 141 i]
        refine wp_ald (i := (141 + i)) 2 ea rfl rfl rfl (by omega) rfl ?_
        refine wp_run 3 (pc' := 29) (ls' := [.ref 74, .int 140, .int (nI st.length), .int (nI i), .int 2]) (st' := [.int 1, .int 2]) rfl ?_
        refine wp_icmp_f rfl (show ¬ ((2 : Int32) = 1) from by decide) ?_
        refine wp_run 2 (pc' := 35) (ls' := [.ref 74, .int 140, .int (nI st.length), .int (nI i), .int 2]) (st' := [.int 2, .int 2]) rfl ?_
        refine wp_icmp_f rfl (show ¬ (¬ (2 : Int32) = 2) from by decide) ?_
        refine wp_run 1 (pc' := 39) (ls' := [.ref 74, .int 140, .int (nI st.length), .int (nI i), .int 2]) (st' := [.ref 74]) rfl ?_
        refine wp_getr 84 rfl rfl rfl ?_
        refine wp_run 3 (pc' := 46) (ls' := [.ref 74, .int 140, .int (nI st.length), .int (nI i), .int 2]) (st' := [.int 1, .int 2, .int (nI st.length), .ref 84]) rfl ?_
        refine wp_icmp_t rfl (show ¬ (2 : Int32) = 1 from by decide) ?_
        refine wp_run 1 (pc' := 64) (ls' := [.ref 74, .int 140, .int (nI st.length), .int (nI i), .int 2]) (st' := [.ref 74, .int (nI st.length), .ref 84]) rfl ?_
        refine wp_getr 83 rfl rfl rfl ?_
        refine wp_run 1 (pc' := 68) (ls' := [.ref 74, .int 140, .int (nI st.length), .int (nI i), .int 2]) (st' := [.ref 74, .ref 83, .int (nI st.length), .ref 84]) rfl ?_
        refine wp_getr 75 rfl rfl rfl ?_
        refine wp_run 5 (pc' := 77) (ls' := [.ref 74, .int 140, .int (nI st.length), .int (nI i), .int 2]) (st' := [.int ((140 + 61) + (nI i)), .ref 75, .ref 83, .int (nI st.length), .ref 84]) rfl ?_
        rw [show ((140 + 61) : Int32) = 201 from by decide]
        rw [show ((201 + (nI i)) : Int32) = (nI (201 + i)) from nI_add 201 i]
        refine wp_ald (i := (201 + i)) 1 ew rfl rfl rfl (by omega) rfl ?_
        refine wp_ald (i := 1) b2 hb2 rfl rfl rfl (by decide) rfl ?_
        refine wp_ast rfl rfl rfl (by omega) rfl ?_
        refine wp_run 4 (pc' := 4) (ls' := [.ref 74, .int 140, .int ((nI st.length) + 1), .int ((nI i) + 1), .int 2]) (st' := []) rfl ?_
        rw [show (((nI st.length) + 1) : Int32) = (nI (st.length + 1)) from nI_add st.length 1]
        rw [show (((nI i) + 1) : Int32) = (nI (i + 1)) from nI_add i 1]
        rw [am_ur_u]
        have est : pu_st a b2 c (-2) st = b2 :: st := by simp (decide := true) [pu_st]
        exact ih (i + 1) (b2 :: st) (upd f st.length b2) _ (by omega) hq2 (by rw [← est, hsl]; exact hw) (pu_rp_push hrp) (by rw [← est, hsl]; exact hd60) (by rw [← est]; exact hrun)
      · have eit2 : it = (-3) := by rw [eit]; decide
        subst eit2
        have hd1 := re_dp_push (by decide) hdp
        refine wp_run 2 (pc' := 6) (ls' := [.ref 74, .int 140, .int (nI st.length), .int (nI i), u4]) (st' := [.ref 74, .int (nI i)]) rfl ?_
        refine wp_getr 75 rfl rfl rfl ?_
        refine wp_run 1 (pc' := 10) (ls' := [.ref 74, .int 140, .int (nI st.length), .int (nI i), u4]) (st' := [.int 140, .ref 75, .int (nI i)]) rfl ?_
        refine wp_ald (i := 140) (nI p.length) hm rfl rfl rfl (by decide) rfl ?_
        refine wp_icmp_f rfl (show ¬ ((nI p.length) ≤ (nI i)) from mt (nI_leI (a := p.length) (b := i) (by omega) (by omega)).mp (by omega)) ?_
        refine wp_run 1 (pc' := 15) (ls' := [.ref 74, .int 140, .int (nI st.length), .int (nI i), u4]) (st' := [.ref 74]) rfl ?_
        refine wp_getr 75 rfl rfl rfl ?_
        refine wp_run 5 (pc' := 23) (ls' := [.ref 74, .int 140, .int (nI st.length), .int (nI i), u4]) (st' := [.int ((140 + 1) + (nI i)), .ref 75]) rfl ?_
        rw [show ((140 + 1) : Int32) = 141 from by decide]
        rw [show ((141 + (nI i)) : Int32) = (nI (141 + i)) from nI_add 141 i]
        refine wp_ald (i := (141 + i)) 2 ea rfl rfl rfl (by omega) rfl ?_
        refine wp_run 3 (pc' := 29) (ls' := [.ref 74, .int 140, .int (nI st.length), .int (nI i), .int 2]) (st' := [.int 1, .int 2]) rfl ?_
        refine wp_icmp_f rfl (show ¬ ((2 : Int32) = 1) from by decide) ?_
        refine wp_run 2 (pc' := 35) (ls' := [.ref 74, .int 140, .int (nI st.length), .int (nI i), .int 2]) (st' := [.int 2, .int 2]) rfl ?_
        refine wp_icmp_f rfl (show ¬ (¬ (2 : Int32) = 2) from by decide) ?_
        refine wp_run 1 (pc' := 39) (ls' := [.ref 74, .int 140, .int (nI st.length), .int (nI i), .int 2]) (st' := [.ref 74]) rfl ?_
        refine wp_getr 84 rfl rfl rfl ?_
        refine wp_run 3 (pc' := 46) (ls' := [.ref 74, .int 140, .int (nI st.length), .int (nI i), .int 2]) (st' := [.int 1, .int 2, .int (nI st.length), .ref 84]) rfl ?_
        refine wp_icmp_t rfl (show ¬ (2 : Int32) = 1 from by decide) ?_
        refine wp_run 1 (pc' := 64) (ls' := [.ref 74, .int 140, .int (nI st.length), .int (nI i), .int 2]) (st' := [.ref 74, .int (nI st.length), .ref 84]) rfl ?_
        refine wp_getr 83 rfl rfl rfl ?_
        refine wp_run 1 (pc' := 68) (ls' := [.ref 74, .int 140, .int (nI st.length), .int (nI i), .int 2]) (st' := [.ref 74, .ref 83, .int (nI st.length), .ref 84]) rfl ?_
        refine wp_getr 75 rfl rfl rfl ?_
        refine wp_run 5 (pc' := 77) (ls' := [.ref 74, .int 140, .int (nI st.length), .int (nI i), .int 2]) (st' := [.int ((140 + 61) + (nI i)), .ref 75, .ref 83, .int (nI st.length), .ref 84]) rfl ?_
        rw [show ((140 + 61) : Int32) = 201 from by decide]
        rw [show ((201 + (nI i)) : Int32) = (nI (201 + i)) from nI_add 201 i]
        refine wp_ald (i := (201 + i)) 2 ew rfl rfl rfl (by omega) rfl ?_
        refine wp_ald (i := 2) c hc rfl rfl rfl (by decide) rfl ?_
        refine wp_ast rfl rfl rfl (by omega) rfl ?_
        refine wp_run 4 (pc' := 4) (ls' := [.ref 74, .int 140, .int ((nI st.length) + 1), .int ((nI i) + 1), .int 2]) (st' := []) rfl ?_
        rw [show (((nI st.length) + 1) : Int32) = (nI (st.length + 1)) from nI_add st.length 1]
        rw [show (((nI i) + 1) : Int32) = (nI (i + 1)) from nI_add i 1]
        rw [am_ur_u]
        have est : pu_st a b2 c (-3) st = c :: st := by simp (decide := true) [pu_st]
        exact ih (i + 1) (c :: st) (upd f st.length c) _ (by omega) hq2 (by rw [← est, hsl]; exact hw) (pu_rp_push hrp) (by rw [← est, hsl]; exact hd60) (by rw [← est]; exact hrun)
    · subst eit
      obtain ⟨y, r, rfl⟩ : ∃ y r, st = y :: r := by cases st with | nil => (simp (decide := true) [pu_dp] at hdp) | cons y r => exact ⟨y, r, rfl⟩
      have h2 := hrp
      have hlen2 : r.length + 1 ≤ 60 := by simpa using hlen
      refine wp_run 2 (pc' := 6) (ls' := [.ref 74, .int 140, .int (nI (r.length + 1)), .int (nI i), u4]) (st' := [.ref 74, .int (nI i)]) rfl ?_
      refine wp_getr 75 rfl rfl rfl ?_
      refine wp_run 1 (pc' := 10) (ls' := [.ref 74, .int 140, .int (nI (r.length + 1)), .int (nI i), u4]) (st' := [.int 140, .ref 75, .int (nI i)]) rfl ?_
      refine wp_ald (i := 140) (nI p.length) hm rfl rfl rfl (by decide) rfl ?_
      refine wp_icmp_f rfl (show ¬ ((nI p.length) ≤ (nI i)) from mt (nI_leI (a := p.length) (b := i) (by omega) (by omega)).mp (by omega)) ?_
      refine wp_run 1 (pc' := 15) (ls' := [.ref 74, .int 140, .int (nI (r.length + 1)), .int (nI i), u4]) (st' := [.ref 74]) rfl ?_
      refine wp_getr 75 rfl rfl rfl ?_
      refine wp_run 5 (pc' := 23) (ls' := [.ref 74, .int 140, .int (nI (r.length + 1)), .int (nI i), u4]) (st' := [.int ((140 + 1) + (nI i)), .ref 75]) rfl ?_
      rw [show ((140 + 1) : Int32) = 141 from by decide]
      rw [show ((141 + (nI i)) : Int32) = (nI (141 + i)) from nI_add 141 i]
      refine wp_ald (i := (141 + i)) 3 ea rfl rfl rfl (by omega) rfl ?_
      refine wp_run 3 (pc' := 29) (ls' := [.ref 74, .int 140, .int (nI (r.length + 1)), .int (nI i), .int 3]) (st' := [.int 1, .int 3]) rfl ?_
      refine wp_icmp_f rfl (show ¬ ((3 : Int32) = 1) from by decide) ?_
      refine wp_run 2 (pc' := 35) (ls' := [.ref 74, .int 140, .int (nI (r.length + 1)), .int (nI i), .int 3]) (st' := [.int 2, .int 3]) rfl ?_
      refine wp_icmp_t rfl (show ¬ (3 : Int32) = 2 from by decide) ?_
      refine wp_run 2 (pc' := 89) (ls' := [.ref 74, .int 140, .int (nI (r.length + 1)), .int (nI i), .int 3]) (st' := [.int 3, .int 3]) rfl ?_
      refine wp_icmp_f rfl (show ¬ (¬ (3 : Int32) = 3) from by decide) ?_
      refine wp_run 1 (pc' := 93) (ls' := [.ref 74, .int 140, .int (nI (r.length + 1)), .int (nI i), .int 3]) (st' := [.ref 74]) rfl ?_
      refine wp_getr 84 rfl rfl rfl ?_
      refine wp_run 4 (pc' := 100) (ls' := [.ref 74, .int 140, .int (nI (r.length + 1)), .int (nI i), .int 3]) (st' := [.ref 74, .int ((nI (r.length + 1)) - 1), .ref 84]) rfl ?_
      rw [show (((nI (r.length + 1)) - 1) : Int32) = (nI r.length) from nI_pred r.length]
      refine wp_getr 84 rfl rfl rfl ?_
      refine wp_run 3 (pc' := 106) (ls' := [.ref 74, .int 140, .int (nI (r.length + 1)), .int (nI i), .int 3]) (st' := [.int ((nI (r.length + 1)) - 1), .ref 84, .int (nI r.length), .ref 84]) rfl ?_
      rw [show (((nI (r.length + 1)) - 1) : Int32) = (nI r.length) from nI_pred r.length]
      refine wp_ald (i := r.length) y h2.1 rfl rfl rfl (by omega) rfl ?_
      refine wp_if rfl (fun (cq107 : ¬ y = 0) => ?_) (fun (cq107 : ¬ (¬ y = 0)) => ?_)
      · skip
        refine wp_run 1 (pc' := 115) (ls' := [.ref 74, .int 140, .int (nI (r.length + 1)), .int (nI i), .int 3]) (st' := [.int 0, .int (nI r.length), .ref 84]) rfl ?_
        refine wp_ast rfl rfl rfl (by omega) rfl ?_
        refine wp_run 3 (pc' := 4) (ls' := [.ref 74, .int 140, .int (nI (r.length + 1)), .int ((nI i) + 1), .int 3]) (st' := []) rfl ?_
        rw [show (((nI i) + 1) : Int32) = (nI (i + 1)) from nI_add i 1]
        rw [am_ur_u]
        have est : pu_st a b2 c (-33) (y :: r) = 0 :: r := by simp (decide := true) [pu_st, pu_j, cq107]
        exact ih (i + 1) (0 :: r) (upd f r.length 0) _ (by omega) hq2 (by rw [← est, hsl]; exact hw) (pu_rp_push hrp.2) (by rw [← est, hsl]; exact hd60) (by rw [← est]; exact hrun)
      · skip
        replace cq107 := Decidable.not_not.mp cq107
        refine wp_run 2 (pc' := 115) (ls' := [.ref 74, .int 140, .int (nI (r.length + 1)), .int (nI i), .int 3]) (st' := [.int 1, .int (nI r.length), .ref 84]) rfl ?_
        refine wp_ast rfl rfl rfl (by omega) rfl ?_
        refine wp_run 3 (pc' := 4) (ls' := [.ref 74, .int 140, .int (nI (r.length + 1)), .int ((nI i) + 1), .int 3]) (st' := []) rfl ?_
        rw [show (((nI i) + 1) : Int32) = (nI (i + 1)) from nI_add i 1]
        rw [am_ur_u]
        have est : pu_st a b2 c (-33) (y :: r) = 1 :: r := by simp (decide := true) [pu_st, pu_j, cq107]
        exact ih (i + 1) (1 :: r) (upd f r.length 1) _ (by omega) hq2 (by rw [← est, hsl]; exact hw) (pu_rp_push hrp.2) (by rw [← est, hsl]; exact hd60) (by rw [← est]; exact hrun)
    · have hpos := re_sg_pos ea
      have hd2 := re_sg_dp ea eit hdp
      obtain ⟨y, x, r, rfl⟩ : ∃ y x r, st = y :: x :: r := by match st, hd2 with | y :: x :: r, _ => exact ⟨y, x, r, rfl⟩
      have h2 := hrp
      have hlen2 : r.length + 2 ≤ 60 := by simpa using hlen
      refine wp_run 2 (pc' := 6) (ls' := [.ref 74, .int 140, .int (nI ((r.length + 1) + 1)), .int (nI i), u4]) (st' := [.ref 74, .int (nI i)]) rfl ?_
      refine wp_getr 75 rfl rfl rfl ?_
      refine wp_run 1 (pc' := 10) (ls' := [.ref 74, .int 140, .int (nI ((r.length + 1) + 1)), .int (nI i), u4]) (st' := [.int 140, .ref 75, .int (nI i)]) rfl ?_
      refine wp_ald (i := 140) (nI p.length) hm rfl rfl rfl (by decide) rfl ?_
      refine wp_icmp_f rfl (show ¬ ((nI p.length) ≤ (nI i)) from mt (nI_leI (a := p.length) (b := i) (by omega) (by omega)).mp (by omega)) ?_
      refine wp_run 1 (pc' := 15) (ls' := [.ref 74, .int 140, .int (nI ((r.length + 1) + 1)), .int (nI i), u4]) (st' := [.ref 74]) rfl ?_
      refine wp_getr 75 rfl rfl rfl ?_
      refine wp_run 5 (pc' := 23) (ls' := [.ref 74, .int 140, .int (nI ((r.length + 1) + 1)), .int (nI i), u4]) (st' := [.int ((140 + 1) + (nI i)), .ref 75]) rfl ?_
      rw [show ((140 + 1) : Int32) = 141 from by decide]
      rw [show ((141 + (nI i)) : Int32) = (nI (141 + i)) from nI_add 141 i]
      refine wp_ald (i := (141 + i)) ((am_ur h 84 f) 75 (141 + i)) rfl rfl rfl rfl (by omega) rfl ?_
      refine wp_run 3 (pc' := 29) (ls' := [.ref 74, .int 140, .int (nI ((r.length + 1) + 1)), .int (nI i), .int ((am_ur h 84 f) 75 (141 + i))]) (st' := [.int 1, .int ((am_ur h 84 f) 75 (141 + i))]) rfl ?_
      refine wp_icmp_f rfl (show ¬ (((am_ur h 84 f) 75 (141 + i)) = 1) from hpos.1) ?_
      refine wp_run 2 (pc' := 35) (ls' := [.ref 74, .int 140, .int (nI ((r.length + 1) + 1)), .int (nI i), .int ((am_ur h 84 f) 75 (141 + i))]) (st' := [.int 2, .int ((am_ur h 84 f) 75 (141 + i))]) rfl ?_
      refine wp_icmp_t rfl (show ¬ ((am_ur h 84 f) 75 (141 + i)) = 2 from hpos.2.1) ?_
      refine wp_run 2 (pc' := 89) (ls' := [.ref 74, .int 140, .int (nI ((r.length + 1) + 1)), .int (nI i), .int ((am_ur h 84 f) 75 (141 + i))]) (st' := [.int 3, .int ((am_ur h 84 f) 75 (141 + i))]) rfl ?_
      refine wp_icmp_t rfl (show ¬ ((am_ur h 84 f) 75 (141 + i)) = 3 from hpos.2.2) ?_
      refine wp_run 2 (pc' := 123) (ls' := [.ref 74, .int 140, .int ((nI ((r.length + 1) + 1)) + (-1)), .int (nI i), .int ((am_ur h 84 f) 75 (141 + i))]) (st' := [.ref 74]) rfl ?_
      rw [show (((nI ((r.length + 1) + 1)) + (-1)) : Int32) = (nI (r.length + 1)) from pk_m1 (r.length + 1)]
      refine wp_getr 84 rfl rfl rfl ?_
      refine wp_run 5 (pc' := 132) (ls' := [.ref 74, .int 140, .int (nI (r.length + 1)), .int (nI i), .int ((am_ur h 84 f) 75 (141 + i))]) (st' := [.ref 74, .int ((am_ur h 84 f) 75 (141 + i)), .int ((nI (r.length + 1)) - 1), .ref 84]) rfl ?_
      rw [show (((nI (r.length + 1)) - 1) : Int32) = (nI r.length) from nI_pred r.length]
      refine wp_getr 84 rfl rfl rfl ?_
      refine wp_run 3 (pc' := 138) (ls' := [.ref 74, .int 140, .int (nI (r.length + 1)), .int (nI i), .int ((am_ur h 84 f) 75 (141 + i))]) (st' := [.int ((nI (r.length + 1)) - 1), .ref 84, .int ((am_ur h 84 f) 75 (141 + i)), .int (nI r.length), .ref 84]) rfl ?_
      rw [show (((nI (r.length + 1)) - 1) : Int32) = (nI r.length) from nI_pred r.length]
      refine wp_ald (i := r.length) x h2.2.1 rfl rfl rfl (by omega) rfl ?_
      refine wp_run 1 (pc' := 140) (ls' := [.ref 74, .int 140, .int (nI (r.length + 1)), .int (nI i), .int ((am_ur h 84 f) 75 (141 + i))]) (st' := [.ref 74, .int x, .int ((am_ur h 84 f) 75 (141 + i)), .int (nI r.length), .ref 84]) rfl ?_
      refine wp_getr 84 rfl rfl rfl ?_
      refine wp_run 1 (pc' := 144) (ls' := [.ref 74, .int 140, .int (nI (r.length + 1)), .int (nI i), .int ((am_ur h 84 f) 75 (141 + i))]) (st' := [.int (nI (r.length + 1)), .ref 84, .int x, .int ((am_ur h 84 f) 75 (141 + i)), .int (nI r.length), .ref 84]) rfl ?_
      refine wp_ald (i := (r.length + 1)) y h2.1 rfl rfl rfl (by omega) rfl ?_
      refine wp_callS (as := [.int ((am_ur h 84 f) 75 (141 + i)), .int x, .int y]) (rest := [.int (nI r.length), .ref 84]) (els := [.int ((am_ur h 84 f) 75 (141 + i)), .int x, .int y]) rfl rfl rfl rfl rfl rfl rfl rfl (by omega) ?_
      refine sp_twoOf ea ?_
      show am_wp L xs _ _ _ _ 148 [.ref 74, .int 140, .int (nI (r.length + 1)), .int (nI i), .int ((am_ur h 84 f) 75 (141 + i))] [.int (pu_j ((am_ur h 84 f) 75 (141 + i)) x y), .int (nI r.length), .ref 84] (am_S b) (am_ur h 84 f) _
      refine wp_ast rfl rfl rfl (by omega) rfl ?_
      refine wp_run 2 (pc' := 4) (ls' := [.ref 74, .int 140, .int (nI (r.length + 1)), .int ((nI i) + 1), .int ((am_ur h 84 f) 75 (141 + i))]) (st' := []) rfl ?_
      rw [show (((nI i) + 1) : Int32) = (nI (i + 1)) from nI_add i 1]
      rw [am_ur_u]
      have est : pu_st a b2 c it (y :: x :: r) = pu_j (h 75 (141 + i)) x y :: r := re_sg_st ea eit _ _ _ _ _ _
      exact ih (i + 1) (pu_j (h 75 (141 + i)) x y :: r) (upd f r.length (pu_j (h 75 (141 + i)) x y)) _ (by omega) hq2 (by rw [← est, hsl]; exact hw) (pu_rp_push hrp.2.2) (by rw [← est, hsl]; exact hd60) (by rw [← est]; exact hrun)
theorem sp_works140 {L : Nat} {xs : Nat → Int32} {d ms b : Nat} {h : am_HI} {Q : am_Q} {p : List Int32} {a b2 c : Int32} (hm : h 75 140 = nI p.length) (hops : ∀ i (hi : i < p.length), re_op (h 75 (141 + i)) (h 75 (201 + i)) p[i]) (hl : p.length ≤ 60) (hw0 : pu_wf p 0 = some 1) (ha : h 83 0 = a) (hb2 : h 83 1 = b2) (hc : h 83 2 = c) (hd : 1 ≤ d) (kk : ∀ f, Q (some (.int (pu_val p a b2 c))) (am_S b) (am_ur h 84 f)) :
    am_wp L xs d 0 ms 142 0 [.ref 74, .int 140, am_du, am_du, am_du] [] (am_S b) h Q := by
  refine wp_run 4 (pc' := 4) (ls' := [.ref 74, .int 140, .int 0, .int 0, am_du]) (st' := []) rfl ?_
  have hp := lp_works140 (L := L) (xs := xs) (ms := ms) (b := b) hm hops hl hw0 ha hb2 hc hd kk p 0 [] (h 84) am_du (by simp) (fun j hj => ⟨by omega, by simp⟩) hw0 trivial (by simp) rfl
  rw [← am_ur_self] at hp
  exact hp
theorem lp_works261 {L : Nat} {xs : Nat → Int32} {d ms b : Nat} {h : am_HI} {Q : am_Q} {p : List Int32} {a b2 c : Int32} (hm : h 75 261 = nI p.length) (hops : ∀ i (hi : i < p.length), re_op (h 75 (262 + i)) (h 75 (322 + i)) p[i]) (hl : p.length ≤ 60) (hw0 : pu_wf p 0 = some 1) (ha : h 83 0 = a) (hb2 : h 83 1 = b2) (hc : h 83 2 = c) (hd : 1 ≤ d) (kk : ∀ f, Q (some (.int (pu_val p a b2 c))) (am_S b) (am_ur h 84 f)) :
    ∀ (q : List Int32) (i : Nat) (st : List Int32) (f : Nat → Int32) (u4 : Value), i + q.length = p.length → (∀ j (hj : j < q.length), ∃ hj2 : i + j < p.length, p[i + j] = q[j]) → pu_wf q st.length = some 1 → pu_rp f st → st.length ≤ 60 → pu_run a b2 c q st = pu_run a b2 c p [] →
    am_wp L xs d 0 ms 142 4 [.ref 74, .int 261, .int (nI st.length), .int (nI i), u4] [] (am_S b) (am_ur h 84 f) Q := by
  intro q
  induction q with
  | nil =>
    intro i st f u4 hi hq hw hrp hlen hrun
    have hi : i = p.length := by simpa using hi
    have h1 : st.length = 1 := by simpa [pu_wf] using hw
    obtain ⟨y, r, rfl⟩ : ∃ y r, st = y :: r := by cases st with | nil => simp at h1 | cons y r => exact ⟨y, r, rfl⟩
    have hr0 : r.length = 0 := by simpa using h1
    have hval : pu_val p a b2 c = y := by unfold pu_val; rw [← hrun]; rfl
    refine wp_run 2 (pc' := 6) (ls' := [.ref 74, .int 261, .int (nI ((y :: r).length)), .int (nI i), u4]) (st' := [.ref 74, .int (nI i)]) rfl ?_
    refine wp_getr 75 rfl rfl rfl ?_
    refine wp_run 1 (pc' := 10) (ls' := [.ref 74, .int 261, .int (nI ((y :: r).length)), .int (nI i), u4]) (st' := [.int 261, .ref 75, .int (nI i)]) rfl ?_
    refine wp_ald (i := 261) (nI p.length) hm rfl rfl rfl (by decide) rfl ?_
    refine wp_icmp_t rfl (show (nI p.length) ≤ (nI i) from (nI_leI (a := p.length) (b := i) (by omega) (by omega)).mpr (by omega)) ?_
    refine wp_run 1 (pc' := 156) (ls' := [.ref 74, .int 261, .int (nI ((y :: r).length)), .int (nI i), u4]) (st' := [.ref 74]) rfl ?_
    refine wp_getr 84 rfl rfl rfl ?_
    refine wp_run 1 (pc' := 160) (ls' := [.ref 74, .int 261, .int (nI ((y :: r).length)), .int (nI i), u4]) (st' := [.int 0, .ref 84]) rfl ?_
    refine wp_ald (i := 0) y (by rw [am_ur_row, ← hr0]; exact hrp.1) rfl rfl rfl (by decide) rfl ?_
    refine wp_ret rfl ?_
    rw [← hval]
    exact kk f
  | cons it q ih =>
    intro i st f u4 hi hq hw hrp hlen hrun
    simp only [List.length_cons] at hi
    have hil : i < p.length := by omega
    have hit : p[i] = it := by obtain ⟨hj2, e⟩ := hq 0 (by simp); simpa using e
    have hop := hops i hil
    rw [hit] at hop
    have hq2 : ∀ j (hj : j < q.length), ∃ hj2 : i + 1 + j < p.length, p[i + 1 + j] = q[j] := fun j hj => by obtain ⟨hj2, e⟩ := hq (j + 1) (by simp; omega); refine ⟨by omega, ?_⟩; simp only [List.getElem_cons_succ] at e; rw [← e]; congr 1; omega
    unfold pu_wf at hw
    cases hdp : pu_dp it st.length with
    | none => rw [hdp] at hw; cases hw
    | some d2 =>
    rw [hdp] at hw
    dsimp only at hw
    have hsl : (pu_st a b2 c it st).length = d2 := pu_dp_len hdp
    have hd60 : d2 ≤ 60 := pu_dp_le hdp hlen
    rcases hop with ⟨ea, ew, h0⟩ | ⟨ea, k, hk, ew, eit⟩ | ⟨ea, eit⟩ | ⟨eit, ea⟩
    · have hd1 := re_dp_push (Int32.le_trans (by decide) h0) hdp
      refine wp_run 2 (pc' := 6) (ls' := [.ref 74, .int 261, .int (nI st.length), .int (nI i), u4]) (st' := [.ref 74, .int (nI i)]) rfl ?_
      refine wp_getr 75 rfl rfl rfl ?_
      refine wp_run 1 (pc' := 10) (ls' := [.ref 74, .int 261, .int (nI st.length), .int (nI i), u4]) (st' := [.int 261, .ref 75, .int (nI i)]) rfl ?_
      refine wp_ald (i := 261) (nI p.length) hm rfl rfl rfl (by decide) rfl ?_
      refine wp_icmp_f rfl (show ¬ ((nI p.length) ≤ (nI i)) from mt (nI_leI (a := p.length) (b := i) (by omega) (by omega)).mp (by omega)) ?_
      refine wp_run 1 (pc' := 15) (ls' := [.ref 74, .int 261, .int (nI st.length), .int (nI i), u4]) (st' := [.ref 74]) rfl ?_
      refine wp_getr 75 rfl rfl rfl ?_
      refine wp_run 5 (pc' := 23) (ls' := [.ref 74, .int 261, .int (nI st.length), .int (nI i), u4]) (st' := [.int ((261 + 1) + (nI i)), .ref 75]) rfl ?_
      rw [show ((261 + 1) : Int32) = 262 from by decide]
      rw [show ((262 + (nI i)) : Int32) = (nI (262 + i)) from nI_add 262 i]
      refine wp_ald (i := (262 + i)) 1 ea rfl rfl rfl (by omega) rfl ?_
      refine wp_run 3 (pc' := 29) (ls' := [.ref 74, .int 261, .int (nI st.length), .int (nI i), .int 1]) (st' := [.int 1, .int 1]) rfl ?_
      refine wp_icmp_t rfl (show (1 : Int32) = 1 from by decide) ?_
      refine wp_run 1 (pc' := 39) (ls' := [.ref 74, .int 261, .int (nI st.length), .int (nI i), .int 1]) (st' := [.ref 74]) rfl ?_
      refine wp_getr 84 rfl rfl rfl ?_
      refine wp_run 3 (pc' := 46) (ls' := [.ref 74, .int 261, .int (nI st.length), .int (nI i), .int 1]) (st' := [.int 1, .int 1, .int (nI st.length), .ref 84]) rfl ?_
      refine wp_icmp_f rfl (show ¬ (¬ (1 : Int32) = 1) from by decide) ?_
      refine wp_run 1 (pc' := 50) (ls' := [.ref 74, .int 261, .int (nI st.length), .int (nI i), .int 1]) (st' := [.ref 74, .int (nI st.length), .ref 84]) rfl ?_
      refine wp_getr 75 rfl rfl rfl ?_
      refine wp_run 5 (pc' := 59) (ls' := [.ref 74, .int 261, .int (nI st.length), .int (nI i), .int 1]) (st' := [.int ((261 + 61) + (nI i)), .ref 75, .int (nI st.length), .ref 84]) rfl ?_
      rw [show ((261 + 61) : Int32) = 322 from by decide]
      rw [show ((322 + (nI i)) : Int32) = (nI (322 + i)) from nI_add 322 i]
      refine wp_ald (i := (322 + i)) it ew rfl rfl rfl (by omega) rfl ?_
      refine wp_run 1 (pc' := 79) (ls' := [.ref 74, .int 261, .int (nI st.length), .int (nI i), .int 1]) (st' := [.int it, .int (nI st.length), .ref 84]) rfl ?_
      refine wp_ast rfl rfl rfl (by omega) rfl ?_
      refine wp_run 4 (pc' := 4) (ls' := [.ref 74, .int 261, .int ((nI st.length) + 1), .int ((nI i) + 1), .int 1]) (st' := []) rfl ?_
      rw [show (((nI st.length) + 1) : Int32) = (nI (st.length + 1)) from nI_add st.length 1]
      rw [show (((nI i) + 1) : Int32) = (nI (i + 1)) from nI_add i 1]
      rw [am_ur_u]
      have est : pu_st a b2 c it st = it :: st := by unfold pu_st; rw [if_pos h0]
      exact ih (i + 1) (it :: st) (upd f st.length it) _ (by omega) hq2 (by rw [← est, hsl]; exact hw) (pu_rp_push hrp) (by rw [← est, hsl]; exact hd60) (by rw [← est]; exact hrun)
    · have hk3 : k = 0 ∨ k = 1 ∨ k = 2 := by omega
      rcases hk3 with e3 | e3 | e3 <;> subst e3
      · have eit2 : it = (-1) := by rw [eit]; decide
        subst eit2
        have hd1 := re_dp_push (by decide) hdp
        refine wp_run 2 (pc' := 6) (ls' := [.ref 74, .int 261, .int (nI st.length), .int (nI i), u4]) (st' := [.ref 74, .int (nI i)]) rfl ?_
        refine wp_getr 75 rfl rfl rfl ?_
        refine wp_run 1 (pc' := 10) (ls' := [.ref 74, .int 261, .int (nI st.length), .int (nI i), u4]) (st' := [.int 261, .ref 75, .int (nI i)]) rfl ?_
        refine wp_ald (i := 261) (nI p.length) hm rfl rfl rfl (by decide) rfl ?_
        refine wp_icmp_f rfl (show ¬ ((nI p.length) ≤ (nI i)) from mt (nI_leI (a := p.length) (b := i) (by omega) (by omega)).mp (by omega)) ?_
        refine wp_run 1 (pc' := 15) (ls' := [.ref 74, .int 261, .int (nI st.length), .int (nI i), u4]) (st' := [.ref 74]) rfl ?_
        refine wp_getr 75 rfl rfl rfl ?_
        refine wp_run 5 (pc' := 23) (ls' := [.ref 74, .int 261, .int (nI st.length), .int (nI i), u4]) (st' := [.int ((261 + 1) + (nI i)), .ref 75]) rfl ?_
        rw [show ((261 + 1) : Int32) = 262 from by decide]
        rw [show ((262 + (nI i)) : Int32) = (nI (262 + i)) from nI_add 262 i]
        refine wp_ald (i := (262 + i)) 2 ea rfl rfl rfl (by omega) rfl ?_
        refine wp_run 3 (pc' := 29) (ls' := [.ref 74, .int 261, .int (nI st.length), .int (nI i), .int 2]) (st' := [.int 1, .int 2]) rfl ?_
        refine wp_icmp_f rfl (show ¬ ((2 : Int32) = 1) from by decide) ?_
        refine wp_run 2 (pc' := 35) (ls' := [.ref 74, .int 261, .int (nI st.length), .int (nI i), .int 2]) (st' := [.int 2, .int 2]) rfl ?_
        refine wp_icmp_f rfl (show ¬ (¬ (2 : Int32) = 2) from by decide) ?_
        refine wp_run 1 (pc' := 39) (ls' := [.ref 74, .int 261, .int (nI st.length), .int (nI i), .int 2]) (st' := [.ref 74]) rfl ?_
        refine wp_getr 84 rfl rfl rfl ?_
        refine wp_run 3 (pc' := 46) (ls' := [.ref 74, .int 261, .int (nI st.length), .int (nI i), .int 2]) (st' := [.int 1, .int 2, .int (nI st.length), .ref 84]) rfl ?_
        refine wp_icmp_t rfl (show ¬ (2 : Int32) = 1 from by decide) ?_
        refine wp_run 1 (pc' := 64) (ls' := [.ref 74, .int 261, .int (nI st.length), .int (nI i), .int 2]) (st' := [.ref 74, .int (nI st.length), .ref 84]) rfl ?_
        refine wp_getr 83 rfl rfl rfl ?_
        refine wp_run 1 (pc' := 68) (ls' := [.ref 74, .int 261, .int (nI st.length), .int (nI i), .int 2]) (st' := [.ref 74, .ref 83, .int (nI st.length), .ref 84]) rfl ?_
        refine wp_getr 75 rfl rfl rfl ?_
        refine wp_run 5 (pc' := 77) (ls' := [.ref 74, .int 261, .int (nI st.length), .int (nI i), .int 2]) (st' := [.int ((261 + 61) + (nI i)), .ref 75, .ref 83, .int (nI st.length), .ref 84]) rfl ?_
        rw [show ((261 + 61) : Int32) = 322 from by decide]
        rw [show ((322 + (nI i)) : Int32) = (nI (322 + i)) from nI_add 322 i]
        refine wp_ald (i := (322 + i)) 0 ew rfl rfl rfl (by omega) rfl ?_
        refine wp_ald (i := 0) a ha rfl rfl rfl (by decide) rfl ?_
        refine wp_ast rfl rfl rfl (by omega) rfl ?_
        refine wp_run 4 (pc' := 4) (ls' := [.ref 74, .int 261, .int ((nI st.length) + 1), .int ((nI i) + 1), .int 2]) (st' := []) rfl ?_
        rw [show (((nI st.length) + 1) : Int32) = (nI (st.length + 1)) from nI_add st.length 1]
        rw [show (((nI i) + 1) : Int32) = (nI (i + 1)) from nI_add i 1]
        rw [am_ur_u]
        have est : pu_st a b2 c (-1) st = a :: st := by simp (decide := true) [pu_st]
        exact ih (i + 1) (a :: st) (upd f st.length a) _ (by omega) hq2 (by rw [← est, hsl]; exact hw) (pu_rp_push hrp) (by rw [← est, hsl]; exact hd60) (by rw [← est]; exact hrun)
      · have eit2 : it = (-2) := by rw [eit]; decide
        subst eit2
        have hd1 := re_dp_push (by decide) hdp
        refine wp_run 2 (pc' := 6) (ls' := [.ref 74, .int 261, .int (nI st.length), .int (nI i), u4]) (st' := [.ref 74, .int (nI i)]) rfl ?_
        refine wp_getr 75 rfl rfl rfl ?_
        refine wp_run 1 (pc' := 10) (ls' := [.ref 74, .int 261, .int (nI st.length), .int (nI i), u4]) (st' := [.int 261, .ref 75, .int (nI i)]) rfl ?_
        refine wp_ald (i := 261) (nI p.length) hm rfl rfl rfl (by decide) rfl ?_
        refine wp_icmp_f rfl (show ¬ ((nI p.length) ≤ (nI i)) from mt (nI_leI (a := p.length) (b := i) (by omega) (by omega)).mp (by omega)) ?_
        refine wp_run 1 (pc' := 15) (ls' := [.ref 74, .int 261, .int (nI st.length), .int (nI i), u4]) (st' := [.ref 74]) rfl ?_
        refine wp_getr 75 rfl rfl rfl ?_
        refine wp_run 5 (pc' := 23) (ls' := [.ref 74, .int 261, .int (nI st.length), .int (nI i), u4]) (st' := [.int ((261 + 1) + (nI i)), .ref 75]) rfl ?_
        rw [show ((261 + 1) : Int32) = 262 from by decide]
        rw [show ((262 + (nI i)) : Int32) = (nI (262 + i)) from nI_add 262 i]
        refine wp_ald (i := (262 + i)) 2 ea rfl rfl rfl (by omega) rfl ?_
        refine wp_run 3 (pc' := 29) (ls' := [.ref 74, .int 261, .int (nI st.length), .int (nI i), .int 2]) (st' := [.int 1, .int 2]) rfl ?_
        refine wp_icmp_f rfl (show ¬ ((2 : Int32) = 1) from by decide) ?_
        refine wp_run 2 (pc' := 35) (ls' := [.ref 74, .int 261, .int (nI st.length), .int (nI i), .int 2]) (st' := [.int 2, .int 2]) rfl ?_
        refine wp_icmp_f rfl (show ¬ (¬ (2 : Int32) = 2) from by decide) ?_
        refine wp_run 1 (pc' := 39) (ls' := [.ref 74, .int 261, .int (nI st.length), .int (nI i), .int 2]) (st' := [.ref 74]) rfl ?_
        refine wp_getr 84 rfl rfl rfl ?_
        refine wp_run 3 (pc' := 46) (ls' := [.ref 74, .int 261, .int (nI st.length), .int (nI i), .int 2]) (st' := [.int 1, .int 2, .int (nI st.length), .ref 84]) rfl ?_
        refine wp_icmp_t rfl (show ¬ (2 : Int32) = 1 from by decide) ?_
        refine wp_run 1 (pc' := 64) (ls' := [.ref 74, .int 261, .int (nI st.length), .int (nI i), .int 2]) (st' := [.ref 74, .int (nI st.length), .ref 84]) rfl ?_
        refine wp_getr 83 rfl rfl rfl ?_
        refine wp_run 1 (pc' := 68) (ls' := [.ref 74, .int 261, .int (nI st.length), .int (nI i), .int 2]) (st' := [.ref 74, .ref 83, .int (nI st.length), .ref 84]) rfl ?_
        refine wp_getr 75 rfl rfl rfl ?_
        refine wp_run 5 (pc' := 77) (ls' := [.ref 74, .int 261, .int (nI st.length), .int (nI i), .int 2]) (st' := [.int ((261 + 61) + (nI i)), .ref 75, .ref 83, .int (nI st.length), .ref 84]) rfl ?_
        rw [show ((261 + 61) : Int32) = 322 from by decide]
        rw [show ((322 + (nI i)) : Int32) = (nI (322 + i)) from nI_add 322 i]
        refine wp_ald (i := (322 + i)) 1 ew rfl rfl rfl (by omega) rfl ?_
        refine wp_ald (i := 1) b2 hb2 rfl rfl rfl (by decide) rfl ?_
        refine wp_ast rfl rfl rfl (by omega) rfl ?_
        refine wp_run 4 (pc' := 4) (ls' := [.ref 74, .int 261, .int ((nI st.length) + 1), .int ((nI i) + 1), .int 2]) (st' := []) rfl ?_
        rw [show (((nI st.length) + 1) : Int32) = (nI (st.length + 1)) from nI_add st.length 1]
        rw [show (((nI i) + 1) : Int32) = (nI (i + 1)) from nI_add i 1]
        rw [am_ur_u]
        have est : pu_st a b2 c (-2) st = b2 :: st := by simp (decide := true) [pu_st]
        exact ih (i + 1) (b2 :: st) (upd f st.length b2) _ (by omega) hq2 (by rw [← est, hsl]; exact hw) (pu_rp_push hrp) (by rw [← est, hsl]; exact hd60) (by rw [← est]; exact hrun)
      · have eit2 : it = (-3) := by rw [eit]; decide
        subst eit2
        have hd1 := re_dp_push (by decide) hdp
        refine wp_run 2 (pc' := 6) (ls' := [.ref 74, .int 261, .int (nI st.length), .int (nI i), u4]) (st' := [.ref 74, .int (nI i)]) rfl ?_
        refine wp_getr 75 rfl rfl rfl ?_
        refine wp_run 1 (pc' := 10) (ls' := [.ref 74, .int 261, .int (nI st.length), .int (nI i), u4]) (st' := [.int 261, .ref 75, .int (nI i)]) rfl ?_
        refine wp_ald (i := 261) (nI p.length) hm rfl rfl rfl (by decide) rfl ?_
        refine wp_icmp_f rfl (show ¬ ((nI p.length) ≤ (nI i)) from mt (nI_leI (a := p.length) (b := i) (by omega) (by omega)).mp (by omega)) ?_
        refine wp_run 1 (pc' := 15) (ls' := [.ref 74, .int 261, .int (nI st.length), .int (nI i), u4]) (st' := [.ref 74]) rfl ?_
        refine wp_getr 75 rfl rfl rfl ?_
        refine wp_run 5 (pc' := 23) (ls' := [.ref 74, .int 261, .int (nI st.length), .int (nI i), u4]) (st' := [.int ((261 + 1) + (nI i)), .ref 75]) rfl ?_
        rw [show ((261 + 1) : Int32) = 262 from by decide]
        rw [show ((262 + (nI i)) : Int32) = (nI (262 + i)) from nI_add 262 i]
        refine wp_ald (i := (262 + i)) 2 ea rfl rfl rfl (by omega) rfl ?_
        refine wp_run 3 (pc' := 29) (ls' := [.ref 74, .int 261, .int (nI st.length), .int (nI i), .int 2]) (st' := [.int 1, .int 2]) rfl ?_
        refine wp_icmp_f rfl (show ¬ ((2 : Int32) = 1) from by decide) ?_
        refine wp_run 2 (pc' := 35) (ls' := [.ref 74, .int 261, .int (nI st.length), .int (nI i), .int 2]) (st' := [.int 2, .int 2]) rfl ?_
        refine wp_icmp_f rfl (show ¬ (¬ (2 : Int32) = 2) from by decide) ?_
        refine wp_run 1 (pc' := 39) (ls' := [.ref 74, .int 261, .int (nI st.length), .int (nI i), .int 2]) (st' := [.ref 74]) rfl ?_
        refine wp_getr 84 rfl rfl rfl ?_
        refine wp_run 3 (pc' := 46) (ls' := [.ref 74, .int 261, .int (nI st.length), .int (nI i), .int 2]) (st' := [.int 1, .int 2, .int (nI st.length), .ref 84]) rfl ?_
        refine wp_icmp_t rfl (show ¬ (2 : Int32) = 1 from by decide) ?_
        refine wp_run 1 (pc' := 64) (ls' := [.ref 74, .int 261, .int (nI st.length), .int (nI i), .int 2]) (st' := [.ref 74, .int (nI st.length), .ref 84]) rfl ?_
        refine wp_getr 83 rfl rfl rfl ?_
        refine wp_run 1 (pc' := 68) (ls' := [.ref 74, .int 261, .int (nI st.length), .int (nI i), .int 2]) (st' := [.ref 74, .ref 83, .int (nI st.length), .ref 84]) rfl ?_
        refine wp_getr 75 rfl rfl rfl ?_
        refine wp_run 5 (pc' := 77) (ls' := [.ref 74, .int 261, .int (nI st.length), .int (nI i), .int 2]) (st' := [.int ((261 + 61) + (nI i)), .ref 75, .ref 83, .int (nI st.length), .ref 84]) rfl ?_
        rw [show ((261 + 61) : Int32) = 322 from by decide]
        rw [show ((322 + (nI i)) : Int32) = (nI (322 + i)) from nI_add 322 i]
        refine wp_ald (i := (322 + i)) 2 ew rfl rfl rfl (by omega) rfl ?_
        refine wp_ald (i := 2) c hc rfl rfl rfl (by decide) rfl ?_
        refine wp_ast rfl rfl rfl (by omega) rfl ?_
        refine wp_run 4 (pc' := 4) (ls' := [.ref 74, .int 261, .int ((nI st.length) + 1), .int ((nI i) + 1), .int 2]) (st' := []) rfl ?_
        rw [show (((nI st.length) + 1) : Int32) = (nI (st.length + 1)) from nI_add st.length 1]
        rw [show (((nI i) + 1) : Int32) = (nI (i + 1)) from nI_add i 1]
        rw [am_ur_u]
        have est : pu_st a b2 c (-3) st = c :: st := by simp (decide := true) [pu_st]
        exact ih (i + 1) (c :: st) (upd f st.length c) _ (by omega) hq2 (by rw [← est, hsl]; exact hw) (pu_rp_push hrp) (by rw [← est, hsl]; exact hd60) (by rw [← est]; exact hrun)
    · subst eit
      obtain ⟨y, r, rfl⟩ : ∃ y r, st = y :: r := by cases st with | nil => (simp (decide := true) [pu_dp] at hdp) | cons y r => exact ⟨y, r, rfl⟩
      have h2 := hrp
      have hlen2 : r.length + 1 ≤ 60 := by simpa using hlen
      refine wp_run 2 (pc' := 6) (ls' := [.ref 74, .int 261, .int (nI (r.length + 1)), .int (nI i), u4]) (st' := [.ref 74, .int (nI i)]) rfl ?_
      refine wp_getr 75 rfl rfl rfl ?_
      refine wp_run 1 (pc' := 10) (ls' := [.ref 74, .int 261, .int (nI (r.length + 1)), .int (nI i), u4]) (st' := [.int 261, .ref 75, .int (nI i)]) rfl ?_
      refine wp_ald (i := 261) (nI p.length) hm rfl rfl rfl (by decide) rfl ?_
      refine wp_icmp_f rfl (show ¬ ((nI p.length) ≤ (nI i)) from mt (nI_leI (a := p.length) (b := i) (by omega) (by omega)).mp (by omega)) ?_
      refine wp_run 1 (pc' := 15) (ls' := [.ref 74, .int 261, .int (nI (r.length + 1)), .int (nI i), u4]) (st' := [.ref 74]) rfl ?_
      refine wp_getr 75 rfl rfl rfl ?_
      refine wp_run 5 (pc' := 23) (ls' := [.ref 74, .int 261, .int (nI (r.length + 1)), .int (nI i), u4]) (st' := [.int ((261 + 1) + (nI i)), .ref 75]) rfl ?_
      rw [show ((261 + 1) : Int32) = 262 from by decide]
      rw [show ((262 + (nI i)) : Int32) = (nI (262 + i)) from nI_add 262 i]
      refine wp_ald (i := (262 + i)) 3 ea rfl rfl rfl (by omega) rfl ?_
      refine wp_run 3 (pc' := 29) (ls' := [.ref 74, .int 261, .int (nI (r.length + 1)), .int (nI i), .int 3]) (st' := [.int 1, .int 3]) rfl ?_
      refine wp_icmp_f rfl (show ¬ ((3 : Int32) = 1) from by decide) ?_
      refine wp_run 2 (pc' := 35) (ls' := [.ref 74, .int 261, .int (nI (r.length + 1)), .int (nI i), .int 3]) (st' := [.int 2, .int 3]) rfl ?_
      refine wp_icmp_t rfl (show ¬ (3 : Int32) = 2 from by decide) ?_
      refine wp_run 2 (pc' := 89) (ls' := [.ref 74, .int 261, .int (nI (r.length + 1)), .int (nI i), .int 3]) (st' := [.int 3, .int 3]) rfl ?_
      refine wp_icmp_f rfl (show ¬ (¬ (3 : Int32) = 3) from by decide) ?_
      refine wp_run 1 (pc' := 93) (ls' := [.ref 74, .int 261, .int (nI (r.length + 1)), .int (nI i), .int 3]) (st' := [.ref 74]) rfl ?_
      refine wp_getr 84 rfl rfl rfl ?_
      refine wp_run 4 (pc' := 100) (ls' := [.ref 74, .int 261, .int (nI (r.length + 1)), .int (nI i), .int 3]) (st' := [.ref 74, .int ((nI (r.length + 1)) - 1), .ref 84]) rfl ?_
      rw [show (((nI (r.length + 1)) - 1) : Int32) = (nI r.length) from nI_pred r.length]
      refine wp_getr 84 rfl rfl rfl ?_
      refine wp_run 3 (pc' := 106) (ls' := [.ref 74, .int 261, .int (nI (r.length + 1)), .int (nI i), .int 3]) (st' := [.int ((nI (r.length + 1)) - 1), .ref 84, .int (nI r.length), .ref 84]) rfl ?_
      rw [show (((nI (r.length + 1)) - 1) : Int32) = (nI r.length) from nI_pred r.length]
      refine wp_ald (i := r.length) y h2.1 rfl rfl rfl (by omega) rfl ?_
      refine wp_if rfl (fun (cq107 : ¬ y = 0) => ?_) (fun (cq107 : ¬ (¬ y = 0)) => ?_)
      · skip
        refine wp_run 1 (pc' := 115) (ls' := [.ref 74, .int 261, .int (nI (r.length + 1)), .int (nI i), .int 3]) (st' := [.int 0, .int (nI r.length), .ref 84]) rfl ?_
        refine wp_ast rfl rfl rfl (by omega) rfl ?_
        refine wp_run 3 (pc' := 4) (ls' := [.ref 74, .int 261, .int (nI (r.length + 1)), .int ((nI i) + 1), .int 3]) (st' := []) rfl ?_
        rw [show (((nI i) + 1) : Int32) = (nI (i + 1)) from nI_add i 1]
        rw [am_ur_u]
        have est : pu_st a b2 c (-33) (y :: r) = 0 :: r := by simp (decide := true) [pu_st, pu_j, cq107]
        exact ih (i + 1) (0 :: r) (upd f r.length 0) _ (by omega) hq2 (by rw [← est, hsl]; exact hw) (pu_rp_push hrp.2) (by rw [← est, hsl]; exact hd60) (by rw [← est]; exact hrun)
      · skip
        replace cq107 := Decidable.not_not.mp cq107
        refine wp_run 2 (pc' := 115) (ls' := [.ref 74, .int 261, .int (nI (r.length + 1)), .int (nI i), .int 3]) (st' := [.int 1, .int (nI r.length), .ref 84]) rfl ?_
        refine wp_ast rfl rfl rfl (by omega) rfl ?_
        refine wp_run 3 (pc' := 4) (ls' := [.ref 74, .int 261, .int (nI (r.length + 1)), .int ((nI i) + 1), .int 3]) (st' := []) rfl ?_
        rw [show (((nI i) + 1) : Int32) = (nI (i + 1)) from nI_add i 1]
        rw [am_ur_u]
        have est : pu_st a b2 c (-33) (y :: r) = 1 :: r := by simp (decide := true) [pu_st, pu_j, cq107]
        exact ih (i + 1) (1 :: r) (upd f r.length 1) _ (by omega) hq2 (by rw [← est, hsl]; exact hw) (pu_rp_push hrp.2) (by rw [← est, hsl]; exact hd60) (by rw [← est]; exact hrun)
    · have hpos := re_sg_pos ea
      have hd2 := re_sg_dp ea eit hdp
      obtain ⟨y, x, r, rfl⟩ : ∃ y x r, st = y :: x :: r := by match st, hd2 with | y :: x :: r, _ => exact ⟨y, x, r, rfl⟩
      have h2 := hrp
      have hlen2 : r.length + 2 ≤ 60 := by simpa using hlen
      refine wp_run 2 (pc' := 6) (ls' := [.ref 74, .int 261, .int (nI ((r.length + 1) + 1)), .int (nI i), u4]) (st' := [.ref 74, .int (nI i)]) rfl ?_
      refine wp_getr 75 rfl rfl rfl ?_
      refine wp_run 1 (pc' := 10) (ls' := [.ref 74, .int 261, .int (nI ((r.length + 1) + 1)), .int (nI i), u4]) (st' := [.int 261, .ref 75, .int (nI i)]) rfl ?_
      refine wp_ald (i := 261) (nI p.length) hm rfl rfl rfl (by decide) rfl ?_
      refine wp_icmp_f rfl (show ¬ ((nI p.length) ≤ (nI i)) from mt (nI_leI (a := p.length) (b := i) (by omega) (by omega)).mp (by omega)) ?_
      refine wp_run 1 (pc' := 15) (ls' := [.ref 74, .int 261, .int (nI ((r.length + 1) + 1)), .int (nI i), u4]) (st' := [.ref 74]) rfl ?_
      refine wp_getr 75 rfl rfl rfl ?_
      refine wp_run 5 (pc' := 23) (ls' := [.ref 74, .int 261, .int (nI ((r.length + 1) + 1)), .int (nI i), u4]) (st' := [.int ((261 + 1) + (nI i)), .ref 75]) rfl ?_
      rw [show ((261 + 1) : Int32) = 262 from by decide]
      rw [show ((262 + (nI i)) : Int32) = (nI (262 + i)) from nI_add 262 i]
      refine wp_ald (i := (262 + i)) ((am_ur h 84 f) 75 (262 + i)) rfl rfl rfl rfl (by omega) rfl ?_
      refine wp_run 3 (pc' := 29) (ls' := [.ref 74, .int 261, .int (nI ((r.length + 1) + 1)), .int (nI i), .int ((am_ur h 84 f) 75 (262 + i))]) (st' := [.int 1, .int ((am_ur h 84 f) 75 (262 + i))]) rfl ?_
      refine wp_icmp_f rfl (show ¬ (((am_ur h 84 f) 75 (262 + i)) = 1) from hpos.1) ?_
      refine wp_run 2 (pc' := 35) (ls' := [.ref 74, .int 261, .int (nI ((r.length + 1) + 1)), .int (nI i), .int ((am_ur h 84 f) 75 (262 + i))]) (st' := [.int 2, .int ((am_ur h 84 f) 75 (262 + i))]) rfl ?_
      refine wp_icmp_t rfl (show ¬ ((am_ur h 84 f) 75 (262 + i)) = 2 from hpos.2.1) ?_
      refine wp_run 2 (pc' := 89) (ls' := [.ref 74, .int 261, .int (nI ((r.length + 1) + 1)), .int (nI i), .int ((am_ur h 84 f) 75 (262 + i))]) (st' := [.int 3, .int ((am_ur h 84 f) 75 (262 + i))]) rfl ?_
      refine wp_icmp_t rfl (show ¬ ((am_ur h 84 f) 75 (262 + i)) = 3 from hpos.2.2) ?_
      refine wp_run 2 (pc' := 123) (ls' := [.ref 74, .int 261, .int ((nI ((r.length + 1) + 1)) + (-1)), .int (nI i), .int ((am_ur h 84 f) 75 (262 + i))]) (st' := [.ref 74]) rfl ?_
      rw [show (((nI ((r.length + 1) + 1)) + (-1)) : Int32) = (nI (r.length + 1)) from pk_m1 (r.length + 1)]
      refine wp_getr 84 rfl rfl rfl ?_
      refine wp_run 5 (pc' := 132) (ls' := [.ref 74, .int 261, .int (nI (r.length + 1)), .int (nI i), .int ((am_ur h 84 f) 75 (262 + i))]) (st' := [.ref 74, .int ((am_ur h 84 f) 75 (262 + i)), .int ((nI (r.length + 1)) - 1), .ref 84]) rfl ?_
      rw [show (((nI (r.length + 1)) - 1) : Int32) = (nI r.length) from nI_pred r.length]
      refine wp_getr 84 rfl rfl rfl ?_
      refine wp_run 3 (pc' := 138) (ls' := [.ref 74, .int 261, .int (nI (r.length + 1)), .int (nI i), .int ((am_ur h 84 f) 75 (262 + i))]) (st' := [.int ((nI (r.length + 1)) - 1), .ref 84, .int ((am_ur h 84 f) 75 (262 + i)), .int (nI r.length), .ref 84]) rfl ?_
      rw [show (((nI (r.length + 1)) - 1) : Int32) = (nI r.length) from nI_pred r.length]
      refine wp_ald (i := r.length) x h2.2.1 rfl rfl rfl (by omega) rfl ?_
      refine wp_run 1 (pc' := 140) (ls' := [.ref 74, .int 261, .int (nI (r.length + 1)), .int (nI i), .int ((am_ur h 84 f) 75 (262 + i))]) (st' := [.ref 74, .int x, .int ((am_ur h 84 f) 75 (262 + i)), .int (nI r.length), .ref 84]) rfl ?_
      refine wp_getr 84 rfl rfl rfl ?_
      refine wp_run 1 (pc' := 144) (ls' := [.ref 74, .int 261, .int (nI (r.length + 1)), .int (nI i), .int ((am_ur h 84 f) 75 (262 + i))]) (st' := [.int (nI (r.length + 1)), .ref 84, .int x, .int ((am_ur h 84 f) 75 (262 + i)), .int (nI r.length), .ref 84]) rfl ?_
      refine wp_ald (i := (r.length + 1)) y h2.1 rfl rfl rfl (by omega) rfl ?_
      refine wp_callS (as := [.int ((am_ur h 84 f) 75 (262 + i)), .int x, .int y]) (rest := [.int (nI r.length), .ref 84]) (els := [.int ((am_ur h 84 f) 75 (262 + i)), .int x, .int y]) rfl rfl rfl rfl rfl rfl rfl rfl (by omega) ?_
      refine sp_twoOf ea ?_
      show am_wp L xs _ _ _ _ 148 [.ref 74, .int 261, .int (nI (r.length + 1)), .int (nI i), .int ((am_ur h 84 f) 75 (262 + i))] [.int (pu_j ((am_ur h 84 f) 75 (262 + i)) x y), .int (nI r.length), .ref 84] (am_S b) (am_ur h 84 f) _
      refine wp_ast rfl rfl rfl (by omega) rfl ?_
      refine wp_run 2 (pc' := 4) (ls' := [.ref 74, .int 261, .int (nI (r.length + 1)), .int ((nI i) + 1), .int ((am_ur h 84 f) 75 (262 + i))]) (st' := []) rfl ?_
      rw [show (((nI i) + 1) : Int32) = (nI (i + 1)) from nI_add i 1]
      rw [am_ur_u]
      have est : pu_st a b2 c it (y :: x :: r) = pu_j (h 75 (262 + i)) x y :: r := re_sg_st ea eit _ _ _ _ _ _
      exact ih (i + 1) (pu_j (h 75 (262 + i)) x y :: r) (upd f r.length (pu_j (h 75 (262 + i)) x y)) _ (by omega) hq2 (by rw [← est, hsl]; exact hw) (pu_rp_push hrp.2.2) (by rw [← est, hsl]; exact hd60) (by rw [← est]; exact hrun)
theorem sp_works261 {L : Nat} {xs : Nat → Int32} {d ms b : Nat} {h : am_HI} {Q : am_Q} {p : List Int32} {a b2 c : Int32} (hm : h 75 261 = nI p.length) (hops : ∀ i (hi : i < p.length), re_op (h 75 (262 + i)) (h 75 (322 + i)) p[i]) (hl : p.length ≤ 60) (hw0 : pu_wf p 0 = some 1) (ha : h 83 0 = a) (hb2 : h 83 1 = b2) (hc : h 83 2 = c) (hd : 1 ≤ d) (kk : ∀ f, Q (some (.int (pu_val p a b2 c))) (am_S b) (am_ur h 84 f)) :
    am_wp L xs d 0 ms 142 0 [.ref 74, .int 261, am_du, am_du, am_du] [] (am_S b) h Q := by
  refine wp_run 4 (pc' := 4) (ls' := [.ref 74, .int 261, .int 0, .int 0, am_du]) (st' := []) rfl ?_
  have hp := lp_works261 (L := L) (xs := xs) (ms := ms) (b := b) hm hops hl hw0 ha hb2 hc hd kk p 0 [] (h 84) am_du (by simp) (fun j hj => ⟨by omega, by simp⟩) hw0 trivial (by simp) rfl
  rw [← am_ur_self] at hp
  exact hp
theorem sp_mgives0 {L : Nat} {xs : Nat → Int32} {d ms b : Nat} {h : am_HI} {Q : am_Q} {p : List Int32} {a b2 c s : Int32} (hm : s = 0 ∧ h 75 140 = 0 ∨ s = 1 ∧ h 75 140 = nI p.length ∧ 0 < p.length ∧ ∀ i (hi : i < p.length), re_op (h 75 (141 + i)) (h 75 (201 + i)) p[i]) (hl : p.length ≤ 60) (hw0 : s = 0 ∨ pu_wf p 0 = some 1) (hd : 2 ≤ d) (kk : ∀ gz, Q (some (.int (pu_gv s p a b2 c 0 99))) (am_S b) (am_ov h [83, 84] gz)) :
    am_wp L xs d 0 ms 141 0 [.ref 74, .int 0, .int a, .int b2, .int c, am_du, am_du] [] (am_S b) h Q := by
  rcases hm with ⟨hs, hm⟩ | ⟨hs, hm, hp0, hops⟩
  · subst hs
    refine wp_run 7 (pc' := 11) (ls' := [.ref 74, .int 0, .int a, .int b2, .int c, .int (140 + (121 * 0)), am_du]) (st' := [.ref 74]) rfl ?_
    rw [show ((121 * 0) : Int32) = 0 from by decide]
    rw [show ((140 + 0) : Int32) = 140 from by decide]
    refine wp_getr 83 rfl rfl rfl ?_
    refine wp_run 2 (pc' := 16) (ls' := [.ref 74, .int 0, .int a, .int b2, .int c, .int 140, am_du]) (st' := [.int a, .int 0, .ref 83]) rfl ?_
    refine wp_ast rfl rfl rfl (by decide) rfl ?_
    refine wp_run 1 (pc' := 18) (ls' := [.ref 74, .int 0, .int a, .int b2, .int c, .int 140, am_du]) (st' := [.ref 74]) rfl ?_
    refine wp_getr 83 rfl rfl rfl ?_
    refine wp_run 2 (pc' := 23) (ls' := [.ref 74, .int 0, .int a, .int b2, .int c, .int 140, am_du]) (st' := [.int b2, .int 1, .ref 83]) rfl ?_
    refine wp_ast rfl rfl rfl (by decide) rfl ?_
    refine wp_run 1 (pc' := 25) (ls' := [.ref 74, .int 0, .int a, .int b2, .int c, .int 140, am_du]) (st' := [.ref 74]) rfl ?_
    refine wp_getr 83 rfl rfl rfl ?_
    refine wp_run 2 (pc' := 31) (ls' := [.ref 74, .int 0, .int a, .int b2, .int c, .int 140, am_du]) (st' := [.int c, .int 2, .ref 83]) rfl ?_
    refine wp_ast rfl rfl rfl (by decide) rfl ?_
    refine wp_run 1 (pc' := 33) (ls' := [.ref 74, .int 0, .int a, .int b2, .int c, .int 140, am_du]) (st' := [.ref 74]) rfl ?_
    refine wp_getr 75 rfl rfl rfl ?_
    refine wp_run 1 (pc' := 38) (ls' := [.ref 74, .int 0, .int a, .int b2, .int c, .int 140, am_du]) (st' := [.int 140, .ref 75]) rfl ?_
    refine wp_ald (i := 140) 0 hm rfl rfl rfl (by decide) rfl ?_
    refine wp_if_t rfl (show (0 : Int32) ≤ 0 from by decide) ?_
    refine wp_run 3 (pc' := 55) (ls' := [.ref 74, .int 0, .int a, .int b2, .int c, .int 140, .int a]) (st' := [.int 0]) rfl ?_
    refine wp_if_f rfl (show ¬ (¬ (0 : Int32) = 0) from by decide) ?_
    refine wp_run 3 (pc' := 63) (ls' := [.ref 74, .int 0, .int a, .int b2, .int c, .int 140, .int a]) (st' := [.int 99, .int 0, .int a]) rfl ?_
    refine wp_callS (as := [.int a, .int 0, .int 99]) (rest := []) (els := [.int a, .int 0, .int 99]) rfl rfl rfl rfl rfl rfl rfl rfl (by omega) ?_
    refine sp_m_held ?_
    show am_wp L xs _ _ _ _ 66 [.ref 74, .int 0, .int a, .int b2, .int c, .int 140, .int a] [.int (pu_held a 0 99)] (am_S b) (am_u (am_u (am_u h 83 0 a) 83 1 b2) 83 2 c) _
    refine wp_run 1 (pc' := 78) (ls' := [.ref 74, .int 0, .int a, .int b2, .int c, .int 140, .int a]) (st' := [.int (pu_held a 0 99)]) rfl ?_
    refine wp_ret rfl ?_
    have eX : (am_u (am_u (am_u h 83 0 a) 83 1 b2) 83 2 c) = am_ov h [83, 84] (am_u (am_u (am_u h 83 0 a) 83 1 b2) 83 2 c) := am_ov_of (fun a ha => by rw [am_u_off _ _ _ (am_nel ha rfl), am_u_off _ _ _ (am_nel ha rfl), am_u_off _ _ _ (am_nel ha rfl)])
    rw [eX]
    exact kk _
  · subst hs
    have hw1 := hw0.resolve_left (by decide)
    refine wp_run 7 (pc' := 11) (ls' := [.ref 74, .int 0, .int a, .int b2, .int c, .int (140 + (121 * 0)), am_du]) (st' := [.ref 74]) rfl ?_
    rw [show ((121 * 0) : Int32) = 0 from by decide]
    rw [show ((140 + 0) : Int32) = 140 from by decide]
    refine wp_getr 83 rfl rfl rfl ?_
    refine wp_run 2 (pc' := 16) (ls' := [.ref 74, .int 0, .int a, .int b2, .int c, .int 140, am_du]) (st' := [.int a, .int 0, .ref 83]) rfl ?_
    refine wp_ast rfl rfl rfl (by decide) rfl ?_
    refine wp_run 1 (pc' := 18) (ls' := [.ref 74, .int 0, .int a, .int b2, .int c, .int 140, am_du]) (st' := [.ref 74]) rfl ?_
    refine wp_getr 83 rfl rfl rfl ?_
    refine wp_run 2 (pc' := 23) (ls' := [.ref 74, .int 0, .int a, .int b2, .int c, .int 140, am_du]) (st' := [.int b2, .int 1, .ref 83]) rfl ?_
    refine wp_ast rfl rfl rfl (by decide) rfl ?_
    refine wp_run 1 (pc' := 25) (ls' := [.ref 74, .int 0, .int a, .int b2, .int c, .int 140, am_du]) (st' := [.ref 74]) rfl ?_
    refine wp_getr 83 rfl rfl rfl ?_
    refine wp_run 2 (pc' := 31) (ls' := [.ref 74, .int 0, .int a, .int b2, .int c, .int 140, am_du]) (st' := [.int c, .int 2, .ref 83]) rfl ?_
    refine wp_ast rfl rfl rfl (by decide) rfl ?_
    refine wp_run 1 (pc' := 33) (ls' := [.ref 74, .int 0, .int a, .int b2, .int c, .int 140, am_du]) (st' := [.ref 74]) rfl ?_
    refine wp_getr 75 rfl rfl rfl ?_
    refine wp_run 1 (pc' := 38) (ls' := [.ref 74, .int 0, .int a, .int b2, .int c, .int 140, am_du]) (st' := [.int 140, .ref 75]) rfl ?_
    refine wp_ald (i := 140) (nI p.length) hm rfl rfl rfl (by decide) rfl ?_
    refine wp_if_f rfl (show ¬ ((nI p.length) ≤ 0) from mt (nI_leI (a := p.length) (b := 0) (by omega) (by omega)).mp (by omega)) ?_
    refine wp_run 2 (pc' := 45) (ls' := [.ref 74, .int 0, .int a, .int b2, .int c, .int 140, am_du]) (st' := [.int 140, .ref 74]) rfl ?_
    refine wp_callV (o := 74) (as := [.int 140]) (rest := []) (els := [.ref 74, .int 140, am_du, am_du, am_du]) rfl rfl rfl rfl rfl rfl rfl rfl (by omega) ?_
    refine sp_works140 (h := (am_u (am_u (am_u h 83 0 a) 83 1 b2) 83 2 c)) (p := p) (a := a) (b2 := b2) (c := c) hm hops hl hw1 rfl rfl rfl (by omega) (fun fz => ?_)
    show am_wp L xs _ _ _ _ 48 [.ref 74, .int 0, .int a, .int b2, .int c, .int 140, am_du] [.int (pu_val p a b2 c)] (am_S b) (am_ur (am_u (am_u (am_u h 83 0 a) 83 1 b2) 83 2 c) 84 fz) _
    refine wp_run 3 (pc' := 55) (ls' := [.ref 74, .int 0, .int a, .int b2, .int c, .int 140, .int (pu_val p a b2 c)]) (st' := [.int 0]) rfl ?_
    refine wp_if_f rfl (show ¬ (¬ (0 : Int32) = 0) from by decide) ?_
    refine wp_run 3 (pc' := 63) (ls' := [.ref 74, .int 0, .int a, .int b2, .int c, .int 140, .int (pu_val p a b2 c)]) (st' := [.int 99, .int 0, .int (pu_val p a b2 c)]) rfl ?_
    refine wp_callS (as := [.int (pu_val p a b2 c), .int 0, .int 99]) (rest := []) (els := [.int (pu_val p a b2 c), .int 0, .int 99]) rfl rfl rfl rfl rfl rfl rfl rfl (by omega) ?_
    refine sp_m_held ?_
    show am_wp L xs _ _ _ _ 66 [.ref 74, .int 0, .int a, .int b2, .int c, .int 140, .int (pu_val p a b2 c)] [.int (pu_held (pu_val p a b2 c) 0 99)] (am_S b) (am_ur (am_u (am_u (am_u h 83 0 a) 83 1 b2) 83 2 c) 84 fz) _
    refine wp_run 1 (pc' := 78) (ls' := [.ref 74, .int 0, .int a, .int b2, .int c, .int 140, .int (pu_val p a b2 c)]) (st' := [.int (pu_held (pu_val p a b2 c) 0 99)]) rfl ?_
    refine wp_ret rfl ?_
    have eX : (am_ur (am_u (am_u (am_u h 83 0 a) 83 1 b2) 83 2 c) 84 fz) = am_ov h [83, 84] (am_ur (am_u (am_u (am_u h 83 0 a) 83 1 b2) 83 2 c) 84 fz) := am_ov_of (fun a ha => by rw [am_ur_off _ _ (am_nel ha rfl), am_u_off _ _ _ (am_nel ha rfl), am_u_off _ _ _ (am_nel ha rfl), am_u_off _ _ _ (am_nel ha rfl)])
    rw [eX]
    exact kk _
theorem sp_mgives1 {L : Nat} {xs : Nat → Int32} {d ms b : Nat} {h : am_HI} {Q : am_Q} {p : List Int32} {a b2 c s : Int32} (hm : s = 0 ∧ h 75 261 = 0 ∨ s = 1 ∧ h 75 261 = nI p.length ∧ 0 < p.length ∧ ∀ i (hi : i < p.length), re_op (h 75 (262 + i)) (h 75 (322 + i)) p[i]) (hl : p.length ≤ 60) (hw0 : s = 0 ∨ pu_wf p 0 = some 1) (hd : 2 ≤ d) (kk : ∀ gz, Q (some (.int (pu_gv s p a b2 c (-99) 99))) (am_S b) (am_ov h [83, 84] gz)) :
    am_wp L xs d 0 ms 141 0 [.ref 74, .int 1, .int a, .int b2, .int c, am_du, am_du] [] (am_S b) h Q := by
  rcases hm with ⟨hs, hm⟩ | ⟨hs, hm, hp0, hops⟩
  · subst hs
    refine wp_run 7 (pc' := 11) (ls' := [.ref 74, .int 1, .int a, .int b2, .int c, .int (140 + (121 * 1)), am_du]) (st' := [.ref 74]) rfl ?_
    rw [show ((121 * 1) : Int32) = 121 from by decide]
    rw [show ((140 + 121) : Int32) = 261 from by decide]
    refine wp_getr 83 rfl rfl rfl ?_
    refine wp_run 2 (pc' := 16) (ls' := [.ref 74, .int 1, .int a, .int b2, .int c, .int 261, am_du]) (st' := [.int a, .int 0, .ref 83]) rfl ?_
    refine wp_ast rfl rfl rfl (by decide) rfl ?_
    refine wp_run 1 (pc' := 18) (ls' := [.ref 74, .int 1, .int a, .int b2, .int c, .int 261, am_du]) (st' := [.ref 74]) rfl ?_
    refine wp_getr 83 rfl rfl rfl ?_
    refine wp_run 2 (pc' := 23) (ls' := [.ref 74, .int 1, .int a, .int b2, .int c, .int 261, am_du]) (st' := [.int b2, .int 1, .ref 83]) rfl ?_
    refine wp_ast rfl rfl rfl (by decide) rfl ?_
    refine wp_run 1 (pc' := 25) (ls' := [.ref 74, .int 1, .int a, .int b2, .int c, .int 261, am_du]) (st' := [.ref 74]) rfl ?_
    refine wp_getr 83 rfl rfl rfl ?_
    refine wp_run 2 (pc' := 31) (ls' := [.ref 74, .int 1, .int a, .int b2, .int c, .int 261, am_du]) (st' := [.int c, .int 2, .ref 83]) rfl ?_
    refine wp_ast rfl rfl rfl (by decide) rfl ?_
    refine wp_run 1 (pc' := 33) (ls' := [.ref 74, .int 1, .int a, .int b2, .int c, .int 261, am_du]) (st' := [.ref 74]) rfl ?_
    refine wp_getr 75 rfl rfl rfl ?_
    refine wp_run 1 (pc' := 38) (ls' := [.ref 74, .int 1, .int a, .int b2, .int c, .int 261, am_du]) (st' := [.int 261, .ref 75]) rfl ?_
    refine wp_ald (i := 261) 0 hm rfl rfl rfl (by decide) rfl ?_
    refine wp_if_t rfl (show (0 : Int32) ≤ 0 from by decide) ?_
    refine wp_run 3 (pc' := 55) (ls' := [.ref 74, .int 1, .int a, .int b2, .int c, .int 261, .int a]) (st' := [.int 1]) rfl ?_
    refine wp_if_t rfl (show ¬ (1 : Int32) = 0 from by decide) ?_
    refine wp_run 3 (pc' := 75) (ls' := [.ref 74, .int 1, .int a, .int b2, .int c, .int 261, .int a]) (st' := [.int 99, .int (-99), .int a]) rfl ?_
    refine wp_callS (as := [.int a, .int (-99), .int 99]) (rest := []) (els := [.int a, .int (-99), .int 99]) rfl rfl rfl rfl rfl rfl rfl rfl (by omega) ?_
    refine sp_m_held ?_
    show am_wp L xs _ _ _ _ 78 [.ref 74, .int 1, .int a, .int b2, .int c, .int 261, .int a] [.int (pu_held a (-99) 99)] (am_S b) (am_u (am_u (am_u h 83 0 a) 83 1 b2) 83 2 c) _
    refine wp_ret rfl ?_
    have eX : (am_u (am_u (am_u h 83 0 a) 83 1 b2) 83 2 c) = am_ov h [83, 84] (am_u (am_u (am_u h 83 0 a) 83 1 b2) 83 2 c) := am_ov_of (fun a ha => by rw [am_u_off _ _ _ (am_nel ha rfl), am_u_off _ _ _ (am_nel ha rfl), am_u_off _ _ _ (am_nel ha rfl)])
    rw [eX]
    exact kk _
  · subst hs
    have hw1 := hw0.resolve_left (by decide)
    refine wp_run 7 (pc' := 11) (ls' := [.ref 74, .int 1, .int a, .int b2, .int c, .int (140 + (121 * 1)), am_du]) (st' := [.ref 74]) rfl ?_
    rw [show ((121 * 1) : Int32) = 121 from by decide]
    rw [show ((140 + 121) : Int32) = 261 from by decide]
    refine wp_getr 83 rfl rfl rfl ?_
    refine wp_run 2 (pc' := 16) (ls' := [.ref 74, .int 1, .int a, .int b2, .int c, .int 261, am_du]) (st' := [.int a, .int 0, .ref 83]) rfl ?_
    refine wp_ast rfl rfl rfl (by decide) rfl ?_
    refine wp_run 1 (pc' := 18) (ls' := [.ref 74, .int 1, .int a, .int b2, .int c, .int 261, am_du]) (st' := [.ref 74]) rfl ?_
    refine wp_getr 83 rfl rfl rfl ?_
    refine wp_run 2 (pc' := 23) (ls' := [.ref 74, .int 1, .int a, .int b2, .int c, .int 261, am_du]) (st' := [.int b2, .int 1, .ref 83]) rfl ?_
    refine wp_ast rfl rfl rfl (by decide) rfl ?_
    refine wp_run 1 (pc' := 25) (ls' := [.ref 74, .int 1, .int a, .int b2, .int c, .int 261, am_du]) (st' := [.ref 74]) rfl ?_
    refine wp_getr 83 rfl rfl rfl ?_
    refine wp_run 2 (pc' := 31) (ls' := [.ref 74, .int 1, .int a, .int b2, .int c, .int 261, am_du]) (st' := [.int c, .int 2, .ref 83]) rfl ?_
    refine wp_ast rfl rfl rfl (by decide) rfl ?_
    refine wp_run 1 (pc' := 33) (ls' := [.ref 74, .int 1, .int a, .int b2, .int c, .int 261, am_du]) (st' := [.ref 74]) rfl ?_
    refine wp_getr 75 rfl rfl rfl ?_
    refine wp_run 1 (pc' := 38) (ls' := [.ref 74, .int 1, .int a, .int b2, .int c, .int 261, am_du]) (st' := [.int 261, .ref 75]) rfl ?_
    refine wp_ald (i := 261) (nI p.length) hm rfl rfl rfl (by decide) rfl ?_
    refine wp_if_f rfl (show ¬ ((nI p.length) ≤ 0) from mt (nI_leI (a := p.length) (b := 0) (by omega) (by omega)).mp (by omega)) ?_
    refine wp_run 2 (pc' := 45) (ls' := [.ref 74, .int 1, .int a, .int b2, .int c, .int 261, am_du]) (st' := [.int 261, .ref 74]) rfl ?_
    refine wp_callV (o := 74) (as := [.int 261]) (rest := []) (els := [.ref 74, .int 261, am_du, am_du, am_du]) rfl rfl rfl rfl rfl rfl rfl rfl (by omega) ?_
    refine sp_works261 (h := (am_u (am_u (am_u h 83 0 a) 83 1 b2) 83 2 c)) (p := p) (a := a) (b2 := b2) (c := c) hm hops hl hw1 rfl rfl rfl (by omega) (fun fz => ?_)
    show am_wp L xs _ _ _ _ 48 [.ref 74, .int 1, .int a, .int b2, .int c, .int 261, am_du] [.int (pu_val p a b2 c)] (am_S b) (am_ur (am_u (am_u (am_u h 83 0 a) 83 1 b2) 83 2 c) 84 fz) _
    refine wp_run 3 (pc' := 55) (ls' := [.ref 74, .int 1, .int a, .int b2, .int c, .int 261, .int (pu_val p a b2 c)]) (st' := [.int 1]) rfl ?_
    refine wp_if_t rfl (show ¬ (1 : Int32) = 0 from by decide) ?_
    refine wp_run 3 (pc' := 75) (ls' := [.ref 74, .int 1, .int a, .int b2, .int c, .int 261, .int (pu_val p a b2 c)]) (st' := [.int 99, .int (-99), .int (pu_val p a b2 c)]) rfl ?_
    refine wp_callS (as := [.int (pu_val p a b2 c), .int (-99), .int 99]) (rest := []) (els := [.int (pu_val p a b2 c), .int (-99), .int 99]) rfl rfl rfl rfl rfl rfl rfl rfl (by omega) ?_
    refine sp_m_held ?_
    show am_wp L xs _ _ _ _ 78 [.ref 74, .int 1, .int a, .int b2, .int c, .int 261, .int (pu_val p a b2 c)] [.int (pu_held (pu_val p a b2 c) (-99) 99)] (am_S b) (am_ur (am_u (am_u (am_u h 83 0 a) 83 1 b2) 83 2 c) 84 fz) _
    refine wp_ret rfl ?_
    have eX : (am_ur (am_u (am_u (am_u h 83 0 a) 83 1 b2) 83 2 c) 84 fz) = am_ov h [83, 84] (am_ur (am_u (am_u (am_u h 83 0 a) 83 1 b2) 83 2 c) 84 fz) := am_ov_of (fun a ha => by rw [am_ur_off _ _ (am_nel ha rfl), am_u_off _ _ _ (am_nel ha rfl), am_u_off _ _ _ (am_nel ha rfl), am_u_off _ _ _ (am_nel ha rfl)])
    rw [eX]
    exact kk _
