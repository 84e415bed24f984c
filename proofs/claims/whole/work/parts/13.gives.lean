/-! laws: joined, gives -/
theorem sp_joined {L : Nat} {xs : Nat → Int32} {d ms : Nat} {h : am_HI} {sh : am_SH} {Q : am_Q} {v a b : Int32} (kk : Q (some (.int (pu_j v a b))) sh h) :
    am_wp L xs d 0 ms 25 0 [.int v, .int a, .int b] [] sh h Q := by
  refine wp_run 1 (pc' := 1) (ls' := [.int v, .int a, .int b]) (st' := [.int v]) rfl ?_
  refine wp_switch [(37, 116), (38, 161), (42, 100), (43, 92), (45, 96), (47, 104), (60, 128), (61, 139), (62, 150), (124, 175)] rfl rfl rfl ?_ ?_
  · refine List.forall_mem_cons.mpr ⟨fun (sw1 : v = _) => ?_, List.forall_mem_cons.mpr ⟨fun (sw1 : v = _) => ?_, List.forall_mem_cons.mpr ⟨fun (sw1 : v = _) => ?_, List.forall_mem_cons.mpr ⟨fun (sw1 : v = _) => ?_, List.forall_mem_cons.mpr ⟨fun (sw1 : v = _) => ?_, List.forall_mem_cons.mpr ⟨fun (sw1 : v = _) => ?_, List.forall_mem_cons.mpr ⟨fun (sw1 : v = _) => ?_, List.forall_mem_cons.mpr ⟨fun (sw1 : v = _) => ?_, List.forall_mem_cons.mpr ⟨fun (sw1 : v = _) => ?_, List.forall_mem_cons.mpr ⟨fun (sw1 : v = _) => ?_, fun _ h => absurd h List.not_mem_nil⟩⟩⟩⟩⟩⟩⟩⟩⟩⟩
    · skip
      refine wp_run 1 (pc' := 117) (ls' := [.int v, .int a, .int b]) (st' := [.int b]) rfl ?_
      refine wp_if rfl (fun (cq117 : ¬ b = 0) => ?_) (fun (cq117 : ¬ (¬ b = 0)) => ?_)
      · skip
        refine wp_run 2 (pc' := 126) (ls' := [.int v, .int a, .int b]) (st' := [.int b, .int a]) rfl ?_
        refine wp_irem rfl cq117 ?_
        refine wp_ret rfl ?_
        have ej : pu_j v a b = (am_rem a b) := by simp (decide := true) [pu_j, sw1, cq117]
        rw [ej] at kk
        exact kk
      · skip
        replace cq117 := Decidable.not_not.mp cq117
        refine wp_run 2 (pc' := 127) (ls' := [.int v, .int a, .int b]) (st' := [.int 0]) rfl ?_
        refine wp_ret rfl ?_
        have ej : pu_j v a b = 0 := by simp (decide := true) [pu_j, sw1, cq117]
        rw [ej] at kk
        exact kk
    · skip
      refine wp_run 1 (pc' := 162) (ls' := [.int v, .int a, .int b]) (st' := [.int a]) rfl ?_
      refine wp_if rfl (fun (cq162 : a = 0) => ?_) (fun (cq162 : ¬ (a = 0)) => ?_)
      · skip
        refine wp_run 1 (pc' := 174) (ls' := [.int v, .int a, .int b]) (st' := [.int 0]) rfl ?_
        refine wp_ret rfl ?_
        have ej : pu_j v a b = 0 := by simp (decide := true) [pu_j, sw1, cq162]
        rw [ej] at kk
        exact kk
      · skip
        refine wp_run 1 (pc' := 166) (ls' := [.int v, .int a, .int b]) (st' := [.int b]) rfl ?_
        refine wp_if rfl (fun (cq166 : b = 0) => ?_) (fun (cq166 : ¬ (b = 0)) => ?_)
        · skip
          refine wp_run 1 (pc' := 174) (ls' := [.int v, .int a, .int b]) (st' := [.int 0]) rfl ?_
          refine wp_ret rfl ?_
          have ej : pu_j v a b = 0 := by simp (decide := true) [pu_j, sw1, cq162, cq166]
          rw [ej] at kk
          exact kk
        · skip
          refine wp_run 2 (pc' := 174) (ls' := [.int v, .int a, .int b]) (st' := [.int 1]) rfl ?_
          refine wp_ret rfl ?_
          have ej : pu_j v a b = 1 := by simp (decide := true) [pu_j, sw1, cq162, cq166]
          rw [ej] at kk
          exact kk
    · skip
      refine wp_run 3 (pc' := 103) (ls' := [.int v, .int a, .int b]) (st' := [.int (a * b)]) rfl ?_
      refine wp_ret rfl ?_
      have ej : pu_j v a b = (a * b) := by simp (decide := true) [pu_j, sw1]
      rw [ej] at kk
      exact kk
    · skip
      refine wp_run 3 (pc' := 95) (ls' := [.int v, .int a, .int b]) (st' := [.int (a + b)]) rfl ?_
      refine wp_ret rfl ?_
      have ej : pu_j v a b = (a + b) := by simp (decide := true) [pu_j, sw1]
      rw [ej] at kk
      exact kk
    · skip
      refine wp_run 3 (pc' := 99) (ls' := [.int v, .int a, .int b]) (st' := [.int (a - b)]) rfl ?_
      refine wp_ret rfl ?_
      have ej : pu_j v a b = (a - b) := by simp (decide := true) [pu_j, sw1]
      rw [ej] at kk
      exact kk
    · skip
      refine wp_run 1 (pc' := 105) (ls' := [.int v, .int a, .int b]) (st' := [.int b]) rfl ?_
      refine wp_if rfl (fun (cq105 : ¬ b = 0) => ?_) (fun (cq105 : ¬ (¬ b = 0)) => ?_)
      · skip
        refine wp_run 2 (pc' := 114) (ls' := [.int v, .int a, .int b]) (st' := [.int b, .int a]) rfl ?_
        refine wp_idiv rfl cq105 ?_
        refine wp_ret rfl ?_
        have ej : pu_j v a b = (a / b) := by simp (decide := true) [pu_j, sw1, cq105]
        rw [ej] at kk
        exact kk
      · skip
        replace cq105 := Decidable.not_not.mp cq105
        refine wp_run 2 (pc' := 115) (ls' := [.int v, .int a, .int b]) (st' := [.int 0]) rfl ?_
        refine wp_ret rfl ?_
        have ej : pu_j v a b = 0 := by simp (decide := true) [pu_j, sw1, cq105]
        rw [ej] at kk
        exact kk
    · skip
      refine wp_run 2 (pc' := 130) (ls' := [.int v, .int a, .int b]) (st' := [.int b, .int a]) rfl ?_
      refine wp_icmp rfl (fun (cq130 : b ≤ a) => ?_) (fun (cq130 : ¬ (b ≤ a)) => ?_)
      · skip
        refine wp_run 1 (pc' := 138) (ls' := [.int v, .int a, .int b]) (st' := [.int 0]) rfl ?_
        refine wp_ret rfl ?_
        have ej : pu_j v a b = 0 := by simp (decide := true) [pu_j, sw1, cq130]
        rw [ej] at kk
        exact kk
      · skip
        refine wp_run 2 (pc' := 138) (ls' := [.int v, .int a, .int b]) (st' := [.int 1]) rfl ?_
        refine wp_ret rfl ?_
        have ej : pu_j v a b = 1 := by simp (decide := true) [pu_j, sw1, cq130]
        rw [ej] at kk
        exact kk
    · skip
      refine wp_run 2 (pc' := 141) (ls' := [.int v, .int a, .int b]) (st' := [.int b, .int a]) rfl ?_
      refine wp_icmp rfl (fun (cq141 : ¬ a = b) => ?_) (fun (cq141 : ¬ (¬ a = b)) => ?_)
      · skip
        refine wp_run 1 (pc' := 149) (ls' := [.int v, .int a, .int b]) (st' := [.int 0]) rfl ?_
        refine wp_ret rfl ?_
        have ej : pu_j v a b = 0 := by simp (decide := true) [pu_j, sw1, cq141]
        rw [ej] at kk
        exact kk
      · skip
        replace cq141 := Decidable.not_not.mp cq141
        refine wp_run 2 (pc' := 149) (ls' := [.int v, .int a, .int b]) (st' := [.int 1]) rfl ?_
        refine wp_ret rfl ?_
        have ej : pu_j v a b = 1 := by simp (decide := true) [pu_j, sw1, cq141]
        rw [ej] at kk
        exact kk
    · skip
      refine wp_run 2 (pc' := 152) (ls' := [.int v, .int a, .int b]) (st' := [.int b, .int a]) rfl ?_
      refine wp_icmp rfl (fun (cq152 : a ≤ b) => ?_) (fun (cq152 : ¬ (a ≤ b)) => ?_)
      · skip
        refine wp_run 1 (pc' := 160) (ls' := [.int v, .int a, .int b]) (st' := [.int 0]) rfl ?_
        refine wp_ret rfl ?_
        have ej : pu_j v a b = 0 := by simp (decide := true) [pu_j, sw1, cq152]
        rw [ej] at kk
        exact kk
      · skip
        refine wp_run 2 (pc' := 160) (ls' := [.int v, .int a, .int b]) (st' := [.int 1]) rfl ?_
        refine wp_ret rfl ?_
        have ej : pu_j v a b = 1 := by simp (decide := true) [pu_j, sw1, cq152]
        rw [ej] at kk
        exact kk
    · skip
      refine wp_run 1 (pc' := 176) (ls' := [.int v, .int a, .int b]) (st' := [.int a]) rfl ?_
      refine wp_if rfl (fun (cq176 : ¬ a = 0) => ?_) (fun (cq176 : ¬ (¬ a = 0)) => ?_)
      · skip
        refine wp_run 2 (pc' := 188) (ls' := [.int v, .int a, .int b]) (st' := [.int 1]) rfl ?_
        refine wp_ret rfl ?_
        have ej : pu_j v a b = 1 := by simp (decide := true) [pu_j, sw1, cq176]
        rw [ej] at kk
        exact kk
      · skip
        replace cq176 := Decidable.not_not.mp cq176
        refine wp_run 1 (pc' := 180) (ls' := [.int v, .int a, .int b]) (st' := [.int b]) rfl ?_
        refine wp_if rfl (fun (cq180 : b = 0) => ?_) (fun (cq180 : ¬ (b = 0)) => ?_)
        · skip
          refine wp_run 1 (pc' := 188) (ls' := [.int v, .int a, .int b]) (st' := [.int 0]) rfl ?_
          refine wp_ret rfl ?_
          have ej : pu_j v a b = 0 := by simp (decide := true) [pu_j, sw1, cq176, cq180]
          rw [ej] at kk
          exact kk
        · skip
          refine wp_run 2 (pc' := 188) (ls' := [.int v, .int a, .int b]) (st' := [.int 1]) rfl ?_
          refine wp_ret rfl ?_
          have ej : pu_j v a b = 1 := by simp (decide := true) [pu_j, sw1, cq176, cq180]
          rw [ej] at kk
          exact kk
  · intro sw1
    refine wp_run 1 (pc' := 190) (ls' := [.int v, .int a, .int b]) (st' := [.int 0]) rfl ?_
    refine wp_ret rfl ?_
    simp only [List.forall_mem_cons] at sw1
    have ej : pu_j v a b = 0 := by simp (decide := true) [pu_j, sw1]
    rw [ej] at kk
    exact kk
theorem lp_gives14 {L : Nat} {xs : Nat → Int32} {d ms b : Nat} {h : am_HI} {Q : am_Q} {lo hi2 : Int32} {a b2 c : Int32} {p : List Int32} (hcs : h 15 1 = nI p.length) (hp : ∀ j (hj : j < p.length), h 16 j = p[j]) (hl : p.length ≤ 60) (hlo : h 14 0 = lo) (hhi : h 14 1 = hi2) (hlh : lo ≤ hi2) (hd : 2 ≤ d) (kk : ∀ f n, Q (some (.int (pu_held (pu_val p a b2 c) lo hi2))) (am_S b) (am_sk h 17 f n)) :
    ∀ (q : List Int32) (i : Nat) (st : List Int32) (f : Nat → Int32) (u5 u6 : Value) (hu5 : u5 = am_du ∨ ∃ z, u5 = .int z) (hu6 : u6 = am_du ∨ ∃ z, u6 = .int z), i + q.length = p.length → (∀ j (hj : j < q.length), ∃ hj2 : i + j < p.length, p[i + j] = q[j]) → pu_wf q st.length = some 1 → pu_rp f st → st.length ≤ 60 → pu_run a b2 c q st = pu_run a b2 c p [] →
    am_wp L xs d 0 ms 21 31 [.ref 14, .int a, .int b2, .int c, .int (nI i), u5, u6] [] (am_S b) (am_sk h 17 f st.length) Q := by
  intro q
  induction q with
  | nil =>
    intro i st f u5 u6 hu5 hu6 hi hq hw hrp hlen hrun
    have hi : i = p.length := by simpa using hi
    have h1 : st.length = 1 := by simpa [pu_wf] using hw
    obtain ⟨y, r, rfl⟩ : ∃ y r, st = y :: r := by cases st with | nil => simp at h1 | cons y r => exact ⟨y, r, rfl⟩
    have h2 := hrp
    have hval : pu_val p a b2 c = y := by unfold pu_val; rw [← hrun]; rfl
    refine wp_run 2 (pc' := 34) (ls' := [.ref 14, .int a, .int b2, .int c, .int (nI i), u5, u6]) (st' := [.ref 14, .int (nI i)]) rfl ?_
    refine wp_getr 15 rfl rfl rfl ?_
    refine wp_geti (nI p.length) (by rw [am_sk_off h f _ (by decide) (by decide)]; exact hcs) rfl rfl rfl ?_
    refine wp_icmp_t rfl (show (nI p.length) ≤ (nI i) from (nI_leI (a := p.length) (b := i) (by omega) (by omega)).mpr (by omega)) ?_
    refine wp_run 1 (pc' := 167) (ls' := [.ref 14, .int a, .int b2, .int c, .int (nI i), u5, u6]) (st' := [.ref 14]) rfl ?_
    refine wp_getr 17 rfl rfl rfl ?_
    refine wp_callV (o := 17) (as := []) (rest := []) (els := [.ref 17]) rfl rfl rfl rfl rfl rfl rfl rfl (by omega) ?_
    refine sp_pop (cap := 60) (n := (r.length)) rfl rfl rfl rfl (am_sk_n h 17 f _) (by simp at hlen; omega) ?_
    rw [am_sk_r, am_sk_pop, show f (r.length) = y from h2.1]
    show am_wp L xs _ _ _ _ 173 [.ref 14, .int a, .int b2, .int c, .int (nI i), u5, u6] [.int y] (am_S b) (am_sk h 17 f (r.length)) _
    refine wp_run 1 (pc' := 174) (ls' := [.ref 14, .int a, .int b2, .int c, .int (nI i), u5, u6]) (st' := [.ref 14, .int y]) rfl ?_
    refine wp_geti lo (by rw [am_sk_off h f _ (by decide) (by decide)]; exact hlo) rfl rfl rfl ?_
    refine wp_run 1 (pc' := 178) (ls' := [.ref 14, .int a, .int b2, .int c, .int (nI i), u5, u6]) (st' := [.ref 14, .int lo, .int y]) rfl ?_
    refine wp_geti hi2 (by rw [am_sk_off h f _ (by decide) (by decide)]; exact hhi) rfl rfl rfl ?_
    refine wp_callS (as := [.int y, .int lo, .int hi2]) (rest := []) (els := [.int y, .int lo, .int hi2]) rfl rfl rfl rfl rfl rfl rfl rfl (by omega) ?_
    refine sp_x_held hlh (by omega) ?_
    show am_wp L xs _ _ _ _ 184 [.ref 14, .int a, .int b2, .int c, .int (nI i), u5, u6] [.int (pu_held y lo hi2)] (am_S b) (am_sk h 17 f (r.length)) _
    refine wp_ret rfl ?_
    rw [← hval]
    exact kk f _
  | cons it q ih =>
    intro i st f u5 u6 hu5 hu6 hi hq hw hrp hlen hrun
    simp only [List.length_cons] at hi
    have hil : i < p.length := by omega
    have hit : h 16 i = it := by obtain ⟨hj2, e⟩ := hq 0 (by simp); have e2 := hp i hil; rw [e2]; simpa using e
    have hq2 : ∀ j (hj : j < q.length), ∃ hj2 : i + 1 + j < p.length, p[i + 1 + j] = q[j] := fun j hj => by obtain ⟨hj2, e⟩ := hq (j + 1) (by simp; omega); refine ⟨by omega, ?_⟩; simp only [List.getElem_cons_succ] at e; rw [← e]; congr 1; omega
    unfold pu_wf at hw
    cases hdp : pu_dp it st.length with
    | none => rw [hdp] at hw; cases hw
    | some d2 =>
    rw [hdp] at hw
    dsimp only at hw
    have hsl : (pu_st a b2 c it st).length = d2 := pu_dp_len hdp
    have hd60 : d2 ≤ 60 := pu_dp_le hdp hlen
    refine wp_run 2 (pc' := 34) (ls' := [.ref 14, .int a, .int b2, .int c, .int (nI i), u5, u6]) (st' := [.ref 14, .int (nI i)]) rfl ?_
    refine wp_getr 15 rfl rfl rfl ?_
    refine wp_geti (nI p.length) (by rw [am_sk_off h f _ (by decide) (by decide)]; exact hcs) rfl rfl rfl ?_
    refine wp_icmp_f rfl (show ¬ ((nI p.length) ≤ (nI i)) from mt (nI_leI (a := p.length) (b := i) (by omega) (by omega)).mp (by omega)) ?_
    refine wp_run 1 (pc' := 44) (ls' := [.ref 14, .int a, .int b2, .int c, .int (nI i), u5, u6]) (st' := [.ref 14]) rfl ?_
    refine wp_getr 15 rfl rfl rfl ?_
    refine wp_getr 16 rfl rfl rfl ?_
    refine wp_run 1 (pc' := 52) (ls' := [.ref 14, .int a, .int b2, .int c, .int (nI i), u5, u6]) (st' := [.int (nI i), .ref 16]) rfl ?_
    refine wp_ald it (by rw [am_sk_off h f _ (by decide) (by decide)]; exact hit) rfl rfl rfl (by omega) rfl ?_
    refine wp_run 2 (pc' := 57) (ls' := [.ref 14, .int a, .int b2, .int c, .int (nI i), .int it, u6]) (st' := [.int it]) rfl ?_
    refine wp_if rfl (fun (cq57 : it < 0) => ?_) (fun (cq57 : ¬ (it < 0)) => ?_)
    · skip
      refine wp_run 2 (pc' := 76) (ls' := [.ref 14, .int a, .int b2, .int c, .int (nI i), .int it, u6]) (st' := [.int (-3), .int it]) rfl ?_
      refine wp_icmp rfl (fun (cq76 : it < (-3)) => ?_) (fun (cq76 : ¬ (it < (-3))) => ?_)
      · skip
        have hn3 : ¬ (-3 ≤ it) := Int32.not_le.mpr cq76
        have hn0 : ¬ (0 ≤ it) := Int32.not_le.mpr cq57
        obtain ⟨y, r, rfl⟩ : ∃ y r, st = y :: r := by cases st with | nil => (unfold pu_dp at hdp; rw [if_neg hn0, if_neg hn3] at hdp; split at hdp <;> simp at hdp) | cons y r => exact ⟨y, r, rfl⟩
        have h2 := hrp
        refine wp_run 1 (pc' := 112) (ls' := [.ref 14, .int a, .int b2, .int c, .int (nI i), .int it, u6]) (st' := [.ref 14]) rfl ?_
        refine wp_getr 17 rfl rfl rfl ?_
        refine wp_callV (o := 17) (as := []) (rest := []) (els := [.ref 17]) rfl rfl rfl rfl rfl rfl rfl rfl (by omega) ?_
        refine sp_pop (cap := 60) (n := (r.length)) rfl rfl rfl rfl (am_sk_n h 17 f _) (by simp at hlen; omega) ?_
        rw [am_sk_r, am_sk_pop, show f (r.length) = y from h2.1]
        show am_wp L xs _ _ _ _ 118 [.ref 14, .int a, .int b2, .int c, .int (nI i), .int it, u6] [.int y] (am_S b) (am_sk h 17 f (r.length)) _
        refine wp_run 2 (pc' := 121) (ls' := [.ref 14, .int a, .int b2, .int c, .int (nI i), .int it, .int y]) (st' := [.ref 14]) rfl ?_
        refine wp_getr 17 rfl rfl rfl ?_
        refine wp_run 2 (pc' := 128) (ls' := [.ref 14, .int a, .int b2, .int c, .int (nI i), .int it, .int y]) (st' := [.int (-33), .int it, .ref 17]) rfl ?_
        refine wp_icmp rfl (fun (cq128 : ¬ it = (-33)) => ?_) (fun (cq128 : ¬ (¬ it = (-33))) => ?_)
        · skip
          obtain ⟨x, r2, rfl⟩ : ∃ x r2, r = x :: r2 := by cases r with | nil => (unfold pu_dp at hdp; rw [if_neg hn0, if_neg hn3, if_neg cq128] at hdp; simp at hdp) | cons x r2 => exact ⟨x, r2, rfl⟩
          have h2 := hrp
          refine wp_run 3 (pc' := 146) (ls' := [.ref 14, .int a, .int b2, .int c, .int (nI i), .int it, .int y]) (st' := [.ref 14, .int (-it), .ref 17]) rfl ?_
          refine wp_getr 17 rfl rfl rfl ?_
          refine wp_callV (o := 17) (as := []) (rest := [.int (-it), .ref 17]) (els := [.ref 17]) rfl rfl rfl rfl rfl rfl rfl rfl (by omega) ?_
          refine sp_pop (cap := 60) (n := (r2.length)) rfl rfl rfl rfl (am_sk_n h 17 f _) (by simp at hlen; omega) ?_
          rw [am_sk_r, am_sk_pop, show f (r2.length) = x from h2.2.1]
          show am_wp L xs _ _ _ _ 152 [.ref 14, .int a, .int b2, .int c, .int (nI i), .int it, .int y] [.int x, .int (-it), .ref 17] (am_S b) (am_sk h 17 f (r2.length)) _
          refine wp_run 1 (pc' := 154) (ls' := [.ref 14, .int a, .int b2, .int c, .int (nI i), .int it, .int y]) (st' := [.int y, .int x, .int (-it), .ref 17]) rfl ?_
          refine wp_callS (as := [.int (-it), .int x, .int y]) (rest := [.ref 17]) (els := [.int (-it), .int x, .int y]) rfl rfl rfl rfl rfl rfl rfl rfl (by omega) ?_
          refine sp_joined ?_
          show am_wp L xs _ _ _ _ 157 [.ref 14, .int a, .int b2, .int c, .int (nI i), .int it, .int y] [.int (pu_j (-it) x y), .ref 17] (am_S b) (am_sk h 17 f (r2.length)) _
          refine wp_callV (o := 17) (as := [.int (pu_j (-it) x y)]) (rest := []) (els := [.ref 17, .int (pu_j (-it) x y)]) rfl rfl rfl rfl rfl rfl rfl rfl (by omega) ?_
          refine sp_push (cap := 60) rfl rfl rfl rfl (am_sk_n h 17 f (r2.length)) (by first | omega | (simp at hlen; omega)) ?_
          rw [am_sk_push]
          show am_wp L xs _ _ _ _ 160 [.ref 14, .int a, .int b2, .int c, .int (nI i), .int it, .int y] [] (am_S b) (am_sk h 17 (upd f (r2.length) (pu_j (-it) x y)) ((r2.length) + 1)) _
          refine wp_run 2 (pc' := 31) (ls' := [.ref 14, .int a, .int b2, .int c, .int ((nI i) + 1), .int it, .int y]) (st' := []) rfl ?_
          rw [show ((nI i) + 1) = (nI (i + 1)) from nI_add i 1]
          have est : pu_st a b2 c it (y :: x :: r2) = (pu_j (-it) x y) :: r2 := by simp [pu_st, hn0, hn3, cq128]
          have := ih (i + 1) ((pu_j (-it) x y) :: r2) (upd f (r2.length) (pu_j (-it) x y)) (.int it) (.int y) (Or.inr ⟨_, rfl⟩) (Or.inr ⟨_, rfl⟩) (by omega) hq2 (by rw [← est, hsl]; exact hw) (pu_rp_push hrp.2.2) (by rw [← est, hsl]; exact hd60) (by rw [← est]; exact hrun)
          exact this
        · skip
          replace cq128 := Decidable.not_not.mp cq128
          refine wp_run 3 (pc' := 136) (ls' := [.ref 14, .int a, .int b2, .int c, .int (nI i), .int it, .int y]) (st' := [.int 0, .int y, .int 61, .ref 17]) rfl ?_
          refine wp_callS (as := [.int 61, .int y, .int 0]) (rest := [.ref 17]) (els := [.int 61, .int y, .int 0]) rfl rfl rfl rfl rfl rfl rfl rfl (by omega) ?_
          refine sp_joined ?_
          show am_wp L xs _ _ _ _ 139 [.ref 14, .int a, .int b2, .int c, .int (nI i), .int it, .int y] [.int (pu_j 61 y 0), .ref 17] (am_S b) (am_sk h 17 f (r.length)) _
          refine wp_run 1 (pc' := 157) (ls' := [.ref 14, .int a, .int b2, .int c, .int (nI i), .int it, .int y]) (st' := [.int (pu_j 61 y 0), .ref 17]) rfl ?_
          refine wp_callV (o := 17) (as := [.int (pu_j 61 y 0)]) (rest := []) (els := [.ref 17, .int (pu_j 61 y 0)]) rfl rfl rfl rfl rfl rfl rfl rfl (by omega) ?_
          refine sp_push (cap := 60) rfl rfl rfl rfl (am_sk_n h 17 f (r.length)) (by first | omega | (simp at hlen; omega)) ?_
          rw [am_sk_push]
          show am_wp L xs _ _ _ _ 160 [.ref 14, .int a, .int b2, .int c, .int (nI i), .int it, .int y] [] (am_S b) (am_sk h 17 (upd f (r.length) (pu_j 61 y 0)) ((r.length) + 1)) _
          refine wp_run 2 (pc' := 31) (ls' := [.ref 14, .int a, .int b2, .int c, .int ((nI i) + 1), .int it, .int y]) (st' := []) rfl ?_
          rw [show ((nI i) + 1) = (nI (i + 1)) from nI_add i 1]
          have est : pu_st a b2 c it (y :: r) = (pu_j 61 y 0) :: r := by simp [pu_st, hn0, hn3, cq128]
          have := ih (i + 1) ((pu_j 61 y 0) :: r) (upd f (r.length) (pu_j 61 y 0)) (.int it) (.int y) (Or.inr ⟨_, rfl⟩) (Or.inr ⟨_, rfl⟩) (by omega) hq2 (by rw [← est, hsl]; exact hw) (pu_rp_push hrp.2) (by rw [← est, hsl]; exact hd60) (by rw [← est]; exact hrun)
          exact this
      · skip
        have hn3 : -3 ≤ it := Int32.not_lt.mp cq76
        have hn0 : ¬ (0 ≤ it) := Int32.not_le.mpr cq57
        have hd1 : st.length < 60 := by unfold pu_dp at hdp; rw [if_neg hn0, if_pos hn3] at hdp; split at hdp <;> first | assumption | cases hdp
        refine wp_run 1 (pc' := 80) (ls' := [.ref 14, .int a, .int b2, .int c, .int (nI i), .int it, u6]) (st' := [.ref 14]) rfl ?_
        refine wp_getr 17 rfl rfl rfl ?_
        refine wp_run 2 (pc' := 86) (ls' := [.ref 14, .int a, .int b2, .int c, .int (nI i), .int it, u6]) (st' := [.int (-1), .int it, .ref 17]) rfl ?_
        refine wp_icmp rfl (fun (cq86 : ¬ it = (-1)) => ?_) (fun (cq86 : ¬ (¬ it = (-1))) => ?_)
        · skip
          refine wp_run 2 (pc' := 97) (ls' := [.ref 14, .int a, .int b2, .int c, .int (nI i), .int it, u6]) (st' := [.int (-2), .int it, .ref 17]) rfl ?_
          refine wp_icmp rfl (fun (cq97 : ¬ it = (-2)) => ?_) (fun (cq97 : ¬ (¬ it = (-2))) => ?_)
          · skip
            refine wp_run 1 (pc' := 105) (ls' := [.ref 14, .int a, .int b2, .int c, .int (nI i), .int it, u6]) (st' := [.int c, .ref 17]) rfl ?_
            refine wp_callV (o := 17) (as := [.int c]) (rest := []) (els := [.ref 17, .int c]) rfl rfl rfl rfl rfl rfl rfl rfl (by omega) ?_
            refine sp_push (cap := 60) rfl rfl rfl rfl (am_sk_n h 17 f st.length) (by first | omega | (simp at hlen; omega)) ?_
            rw [am_sk_push]
            show am_wp L xs _ _ _ _ 108 [.ref 14, .int a, .int b2, .int c, .int (nI i), .int it, u6] [] (am_S b) (am_sk h 17 (upd f st.length c) (st.length + 1)) _
            refine wp_run 3 (pc' := 31) (ls' := [.ref 14, .int a, .int b2, .int c, .int ((nI i) + 1), .int it, u6]) (st' := []) rfl ?_
            rw [show ((nI i) + 1) = (nI (i + 1)) from nI_add i 1]
            have est : pu_st a b2 c it st = c :: st := by simp [pu_st, hn0, hn3, cq86, cq97]
            have := ih (i + 1) (c :: st) (upd f st.length c) (.int it) u6 (Or.inr ⟨_, rfl⟩) hu6 (by omega) hq2 (by rw [← est, hsl]; exact hw) (pu_rp_push hrp) (by rw [← est, hsl]; exact hd60) (by rw [← est]; exact hrun)
            exact this
          · skip
            replace cq97 := Decidable.not_not.mp cq97
            refine wp_run 2 (pc' := 105) (ls' := [.ref 14, .int a, .int b2, .int c, .int (nI i), .int it, u6]) (st' := [.int b2, .ref 17]) rfl ?_
            refine wp_callV (o := 17) (as := [.int b2]) (rest := []) (els := [.ref 17, .int b2]) rfl rfl rfl rfl rfl rfl rfl rfl (by omega) ?_
            refine sp_push (cap := 60) rfl rfl rfl rfl (am_sk_n h 17 f st.length) (by first | omega | (simp at hlen; omega)) ?_
            rw [am_sk_push]
            show am_wp L xs _ _ _ _ 108 [.ref 14, .int a, .int b2, .int c, .int (nI i), .int it, u6] [] (am_S b) (am_sk h 17 (upd f st.length b2) (st.length + 1)) _
            refine wp_run 3 (pc' := 31) (ls' := [.ref 14, .int a, .int b2, .int c, .int ((nI i) + 1), .int it, u6]) (st' := []) rfl ?_
            rw [show ((nI i) + 1) = (nI (i + 1)) from nI_add i 1]
            have est : pu_st a b2 c it st = b2 :: st := by simp [pu_st, hn0, hn3, cq86, cq97]
            have := ih (i + 1) (b2 :: st) (upd f st.length b2) (.int it) u6 (Or.inr ⟨_, rfl⟩) hu6 (by omega) hq2 (by rw [← est, hsl]; exact hw) (pu_rp_push hrp) (by rw [← est, hsl]; exact hd60) (by rw [← est]; exact hrun)
            exact this
        · skip
          replace cq86 := Decidable.not_not.mp cq86
          refine wp_run 2 (pc' := 105) (ls' := [.ref 14, .int a, .int b2, .int c, .int (nI i), .int it, u6]) (st' := [.int a, .ref 17]) rfl ?_
          refine wp_callV (o := 17) (as := [.int a]) (rest := []) (els := [.ref 17, .int a]) rfl rfl rfl rfl rfl rfl rfl rfl (by omega) ?_
          refine sp_push (cap := 60) rfl rfl rfl rfl (am_sk_n h 17 f st.length) (by first | omega | (simp at hlen; omega)) ?_
          rw [am_sk_push]
          show am_wp L xs _ _ _ _ 108 [.ref 14, .int a, .int b2, .int c, .int (nI i), .int it, u6] [] (am_S b) (am_sk h 17 (upd f st.length a) (st.length + 1)) _
          refine wp_run 3 (pc' := 31) (ls' := [.ref 14, .int a, .int b2, .int c, .int ((nI i) + 1), .int it, u6]) (st' := []) rfl ?_
          rw [show ((nI i) + 1) = (nI (i + 1)) from nI_add i 1]
          have est : pu_st a b2 c it st = a :: st := by simp [pu_st, hn0, hn3, cq86]
          have := ih (i + 1) (a :: st) (upd f st.length a) (.int it) u6 (Or.inr ⟨_, rfl⟩) hu6 (by omega) hq2 (by rw [← est, hsl]; exact hw) (pu_rp_push hrp) (by rw [← est, hsl]; exact hd60) (by rw [← est]; exact hrun)
          exact this
    · skip
      have hn0 : 0 ≤ it := Int32.not_lt.mp cq57
      have hd1 : st.length < 60 := by unfold pu_dp at hdp; rw [if_pos hn0] at hdp; split at hdp <;> first | assumption | cases hdp
      refine wp_run 1 (pc' := 61) (ls' := [.ref 14, .int a, .int b2, .int c, .int (nI i), .int it, u6]) (st' := [.ref 14]) rfl ?_
      refine wp_getr 17 rfl rfl rfl ?_
      refine wp_run 1 (pc' := 66) (ls' := [.ref 14, .int a, .int b2, .int c, .int (nI i), .int it, u6]) (st' := [.int it, .ref 17]) rfl ?_
      refine wp_callV (o := 17) (as := [.int it]) (rest := []) (els := [.ref 17, .int it]) rfl rfl rfl rfl rfl rfl rfl rfl (by omega) ?_
      refine sp_push (cap := 60) rfl rfl rfl rfl (am_sk_n h 17 f st.length) (by first | omega | (simp at hlen; omega)) ?_
      rw [am_sk_push]
      show am_wp L xs _ _ _ _ 69 [.ref 14, .int a, .int b2, .int c, .int (nI i), .int it, u6] [] (am_S b) (am_sk h 17 (upd f st.length it) (st.length + 1)) _
      refine wp_run 3 (pc' := 31) (ls' := [.ref 14, .int a, .int b2, .int c, .int ((nI i) + 1), .int it, u6]) (st' := []) rfl ?_
      rw [show ((nI i) + 1) = (nI (i + 1)) from nI_add i 1]
      have est : pu_st a b2 c it st = it :: st := by simp [pu_st, hn0]
      have := ih (i + 1) (it :: st) (upd f st.length it) (.int it) u6 (Or.inr ⟨_, rfl⟩) hu6 (by omega) hq2 (by rw [← est, hsl]; exact hw) (pu_rp_push hrp) (by rw [← est, hsl]; exact hd60) (by rw [← est]; exact hrun)
      exact this
theorem sp_gives14 {L : Nat} {xs : Nat → Int32} {d ms b : Nat} {h : am_HI} {Q : am_Q} {lo hi2 s4 : Int32} {a b2 c : Int32} {p : List Int32} (hcs : h 15 1 = nI p.length) (hp : ∀ j (hj : j < p.length), h 16 j = p[j]) (hl : p.length ≤ 60) (hlo : h 14 0 = lo) (hhi : h 14 1 = hi2) (hlh : lo ≤ hi2) (hst : h 14 4 = s4) (hw : s4 = 0 ∨ pu_wf p 0 = some 1) (hd : 2 ≤ d) (kk : ∀ g, Q (some (.int (pu_gv s4 p a b2 c lo hi2))) (am_S b) (am_ov h [17, 18] g)) :
    am_wp L xs d 0 ms 21 0 [.ref 14, .int a, .int b2, .int c, am_du, am_du, am_du] [] (am_S b) h Q := by
  refine wp_run 1 (pc' := 1) (ls' := [.ref 14, .int a, .int b2, .int c, am_du, am_du, am_du]) (st' := [.ref 14]) rfl ?_
  refine wp_geti s4 hst rfl rfl rfl ?_
  refine wp_if rfl (fun (cq4 : ¬ s4 = 0) => ?_) (fun (cq4 : ¬ (¬ s4 = 0)) => ?_)
  · skip
    refine wp_run 1 (pc' := 21) (ls' := [.ref 14, .int a, .int b2, .int c, am_du, am_du, am_du]) (st' := [.ref 14]) rfl ?_
    refine wp_getr 17 rfl rfl rfl ?_
    refine wp_run 1 (pc' := 25) (ls' := [.ref 14, .int a, .int b2, .int c, am_du, am_du, am_du]) (st' := [.int 0, .ref 17]) rfl ?_
    refine wp_puti rfl rfl ?_
    refine wp_run 2 (pc' := 31) (ls' := [.ref 14, .int a, .int b2, .int c, .int 0, am_du, am_du]) (st' := []) rfl ?_
    rw [show ((am_u h 17 1 0) : am_HI) = am_sk h 17 (h 18) 0 from am_sk_0 h 17]
    refine lp_gives14 hcs hp hl hlo hhi hlh hd (fun f n => ?_) p 0 [] (h 18) am_du am_du (Or.inl rfl) (Or.inl rfl) (by simp) (fun j hj => ⟨by omega, by simp⟩) (hw.resolve_left cq4) trivial (by simp) rfl
    have eg : pu_gv s4 p a b2 c lo hi2 = pu_held (pu_val p a b2 c) lo hi2 := by unfold pu_gv; rw [if_neg cq4]
    rw [← eg, am_ov_of (h := h) (h' := am_sk h 17 f n) (l := [17, 18]) (fun a ha => am_sk_off h f n (fun e => by subst e; simp at ha) (fun e => by subst e; simp at ha))]
    exact kk _
  · skip
    replace cq4 := Decidable.not_not.mp cq4
    refine wp_run 2 (pc' := 9) (ls' := [.ref 14, .int a, .int b2, .int c, am_du, am_du, am_du]) (st' := [.ref 14, .int a]) rfl ?_
    refine wp_geti lo hlo rfl rfl rfl ?_
    refine wp_run 1 (pc' := 13) (ls' := [.ref 14, .int a, .int b2, .int c, am_du, am_du, am_du]) (st' := [.ref 14, .int lo, .int a]) rfl ?_
    refine wp_geti hi2 hhi rfl rfl rfl ?_
    refine wp_callS (as := [.int a, .int lo, .int hi2]) (rest := []) (els := [.int a, .int lo, .int hi2]) rfl rfl rfl rfl rfl rfl rfl rfl (by omega) ?_
    refine sp_x_held hlh (by omega) ?_
    show am_wp L xs _ _ _ _ 19 [.ref 14, .int a, .int b2, .int c, am_du, am_du, am_du] [.int (pu_held a lo hi2)] (am_S b) h _
    refine wp_ret rfl ?_
    have eg : pu_gv s4 p a b2 c lo hi2 = pu_held a lo hi2 := by unfold pu_gv; rw [if_pos cq4]
    rw [← eg]
    have := kk h
    rw [← am_ov_self] at this
    exact this
theorem lp_gives19 {L : Nat} {xs : Nat → Int32} {d ms b : Nat} {h : am_HI} {Q : am_Q} {lo hi2 : Int32} {a b2 c : Int32} {p : List Int32} (hcs : h 20 1 = nI p.length) (hp : ∀ j (hj : j < p.length), h 21 j = p[j]) (hl : p.length ≤ 60) (hlo : h 19 0 = lo) (hhi : h 19 1 = hi2) (hlh : lo ≤ hi2) (hd : 2 ≤ d) (kk : ∀ f n, Q (some (.int (pu_held (pu_val p a b2 c) lo hi2))) (am_S b) (am_sk h 22 f n)) :
    ∀ (q : List Int32) (i : Nat) (st : List Int32) (f : Nat → Int32) (u5 u6 : Value) (hu5 : u5 = am_du ∨ ∃ z, u5 = .int z) (hu6 : u6 = am_du ∨ ∃ z, u6 = .int z), i + q.length = p.length → (∀ j (hj : j < q.length), ∃ hj2 : i + j < p.length, p[i + j] = q[j]) → pu_wf q st.length = some 1 → pu_rp f st → st.length ≤ 60 → pu_run a b2 c q st = pu_run a b2 c p [] →
    am_wp L xs d 0 ms 21 31 [.ref 19, .int a, .int b2, .int c, .int (nI i), u5, u6] [] (am_S b) (am_sk h 22 f st.length) Q := by
  intro q
  induction q with
  | nil =>
    intro i st f u5 u6 hu5 hu6 hi hq hw hrp hlen hrun
    have hi : i = p.length := by simpa using hi
    have h1 : st.length = 1 := by simpa [pu_wf] using hw
    obtain ⟨y, r, rfl⟩ : ∃ y r, st = y :: r := by cases st with | nil => simp at h1 | cons y r => exact ⟨y, r, rfl⟩
    have h2 := hrp
    have hval : pu_val p a b2 c = y := by unfold pu_val; rw [← hrun]; rfl
    refine wp_run 2 (pc' := 34) (ls' := [.ref 19, .int a, .int b2, .int c, .int (nI i), u5, u6]) (st' := [.ref 19, .int (nI i)]) rfl ?_
    refine wp_getr 20 rfl rfl rfl ?_
    refine wp_geti (nI p.length) (by rw [am_sk_off h f _ (by decide) (by decide)]; exact hcs) rfl rfl rfl ?_
    refine wp_icmp_t rfl (show (nI p.length) ≤ (nI i) from (nI_leI (a := p.length) (b := i) (by omega) (by omega)).mpr (by omega)) ?_
    refine wp_run 1 (pc' := 167) (ls' := [.ref 19, .int a, .int b2, .int c, .int (nI i), u5, u6]) (st' := [.ref 19]) rfl ?_
    refine wp_getr 22 rfl rfl rfl ?_
    refine wp_callV (o := 22) (as := []) (rest := []) (els := [.ref 22]) rfl rfl rfl rfl rfl rfl rfl rfl (by omega) ?_
    refine sp_pop (cap := 60) (n := (r.length)) rfl rfl rfl rfl (am_sk_n h 22 f _) (by simp at hlen; omega) ?_
    rw [am_sk_r, am_sk_pop, show f (r.length) = y from h2.1]
    show am_wp L xs _ _ _ _ 173 [.ref 19, .int a, .int b2, .int c, .int (nI i), u5, u6] [.int y] (am_S b) (am_sk h 22 f (r.length)) _
    refine wp_run 1 (pc' := 174) (ls' := [.ref 19, .int a, .int b2, .int c, .int (nI i), u5, u6]) (st' := [.ref 19, .int y]) rfl ?_
    refine wp_geti lo (by rw [am_sk_off h f _ (by decide) (by decide)]; exact hlo) rfl rfl rfl ?_
    refine wp_run 1 (pc' := 178) (ls' := [.ref 19, .int a, .int b2, .int c, .int (nI i), u5, u6]) (st' := [.ref 19, .int lo, .int y]) rfl ?_
    refine wp_geti hi2 (by rw [am_sk_off h f _ (by decide) (by decide)]; exact hhi) rfl rfl rfl ?_
    refine wp_callS (as := [.int y, .int lo, .int hi2]) (rest := []) (els := [.int y, .int lo, .int hi2]) rfl rfl rfl rfl rfl rfl rfl rfl (by omega) ?_
    refine sp_x_held hlh (by omega) ?_
    show am_wp L xs _ _ _ _ 184 [.ref 19, .int a, .int b2, .int c, .int (nI i), u5, u6] [.int (pu_held y lo hi2)] (am_S b) (am_sk h 22 f (r.length)) _
    refine wp_ret rfl ?_
    rw [← hval]
    exact kk f _
  | cons it q ih =>
    intro i st f u5 u6 hu5 hu6 hi hq hw hrp hlen hrun
    simp only [List.length_cons] at hi
    have hil : i < p.length := by omega
    have hit : h 21 i = it := by obtain ⟨hj2, e⟩ := hq 0 (by simp); have e2 := hp i hil; rw [e2]; simpa using e
    have hq2 : ∀ j (hj : j < q.length), ∃ hj2 : i + 1 + j < p.length, p[i + 1 + j] = q[j] := fun j hj => by obtain ⟨hj2, e⟩ := hq (j + 1) (by simp; omega); refine ⟨by omega, ?_⟩; simp only [List.getElem_cons_succ] at e; rw [← e]; congr 1; omega
    unfold pu_wf at hw
    cases hdp : pu_dp it st.length with
    | none => rw [hdp] at hw; cases hw
    | some d2 =>
    rw [hdp] at hw
    dsimp only at hw
    have hsl : (pu_st a b2 c it st).length = d2 := pu_dp_len hdp
    have hd60 : d2 ≤ 60 := pu_dp_le hdp hlen
    refine wp_run 2 (pc' := 34) (ls' := [.ref 19, .int a, .int b2, .int c, .int (nI i), u5, u6]) (st' := [.ref 19, .int (nI i)]) rfl ?_
    refine wp_getr 20 rfl rfl rfl ?_
    refine wp_geti (nI p.length) (by rw [am_sk_off h f _ (by decide) (by decide)]; exact hcs) rfl rfl rfl ?_
    refine wp_icmp_f rfl (show ¬ ((nI p.length) ≤ (nI i)) from mt (nI_leI (a := p.length) (b := i) (by omega) (by omega)).mp (by omega)) ?_
    refine wp_run 1 (pc' := 44) (ls' := [.ref 19, .int a, .int b2, .int c, .int (nI i), u5, u6]) (st' := [.ref 19]) rfl ?_
    refine wp_getr 20 rfl rfl rfl ?_
    refine wp_getr 21 rfl rfl rfl ?_
    refine wp_run 1 (pc' := 52) (ls' := [.ref 19, .int a, .int b2, .int c, .int (nI i), u5, u6]) (st' := [.int (nI i), .ref 21]) rfl ?_
    refine wp_ald it (by rw [am_sk_off h f _ (by decide) (by decide)]; exact hit) rfl rfl rfl (by omega) rfl ?_
    refine wp_run 2 (pc' := 57) (ls' := [.ref 19, .int a, .int b2, .int c, .int (nI i), .int it, u6]) (st' := [.int it]) rfl ?_
    refine wp_if rfl (fun (cq57 : it < 0) => ?_) (fun (cq57 : ¬ (it < 0)) => ?_)
    · skip
      refine wp_run 2 (pc' := 76) (ls' := [.ref 19, .int a, .int b2, .int c, .int (nI i), .int it, u6]) (st' := [.int (-3), .int it]) rfl ?_
      refine wp_icmp rfl (fun (cq76 : it < (-3)) => ?_) (fun (cq76 : ¬ (it < (-3))) => ?_)
      · skip
        have hn3 : ¬ (-3 ≤ it) := Int32.not_le.mpr cq76
        have hn0 : ¬ (0 ≤ it) := Int32.not_le.mpr cq57
        obtain ⟨y, r, rfl⟩ : ∃ y r, st = y :: r := by cases st with | nil => (unfold pu_dp at hdp; rw [if_neg hn0, if_neg hn3] at hdp; split at hdp <;> simp at hdp) | cons y r => exact ⟨y, r, rfl⟩
        have h2 := hrp
        refine wp_run 1 (pc' := 112) (ls' := [.ref 19, .int a, .int b2, .int c, .int (nI i), .int it, u6]) (st' := [.ref 19]) rfl ?_
        refine wp_getr 22 rfl rfl rfl ?_
        refine wp_callV (o := 22) (as := []) (rest := []) (els := [.ref 22]) rfl rfl rfl rfl rfl rfl rfl rfl (by omega) ?_
        refine sp_pop (cap := 60) (n := (r.length)) rfl rfl rfl rfl (am_sk_n h 22 f _) (by simp at hlen; omega) ?_
        rw [am_sk_r, am_sk_pop, show f (r.length) = y from h2.1]
        show am_wp L xs _ _ _ _ 118 [.ref 19, .int a, .int b2, .int c, .int (nI i), .int it, u6] [.int y] (am_S b) (am_sk h 22 f (r.length)) _
        refine wp_run 2 (pc' := 121) (ls' := [.ref 19, .int a, .int b2, .int c, .int (nI i), .int it, .int y]) (st' := [.ref 19]) rfl ?_
        refine wp_getr 22 rfl rfl rfl ?_
        refine wp_run 2 (pc' := 128) (ls' := [.ref 19, .int a, .int b2, .int c, .int (nI i), .int it, .int y]) (st' := [.int (-33), .int it, .ref 22]) rfl ?_
        refine wp_icmp rfl (fun (cq128 : ¬ it = (-33)) => ?_) (fun (cq128 : ¬ (¬ it = (-33))) => ?_)
        · skip
          obtain ⟨x, r2, rfl⟩ : ∃ x r2, r = x :: r2 := by cases r with | nil => (unfold pu_dp at hdp; rw [if_neg hn0, if_neg hn3, if_neg cq128] at hdp; simp at hdp) | cons x r2 => exact ⟨x, r2, rfl⟩
          have h2 := hrp
          refine wp_run 3 (pc' := 146) (ls' := [.ref 19, .int a, .int b2, .int c, .int (nI i), .int it, .int y]) (st' := [.ref 19, .int (-it), .ref 22]) rfl ?_
          refine wp_getr 22 rfl rfl rfl ?_
          refine wp_callV (o := 22) (as := []) (rest := [.int (-it), .ref 22]) (els := [.ref 22]) rfl rfl rfl rfl rfl rfl rfl rfl (by omega) ?_
          refine sp_pop (cap := 60) (n := (r2.length)) rfl rfl rfl rfl (am_sk_n h 22 f _) (by simp at hlen; omega) ?_
          rw [am_sk_r, am_sk_pop, show f (r2.length) = x from h2.2.1]
          show am_wp L xs _ _ _ _ 152 [.ref 19, .int a, .int b2, .int c, .int (nI i), .int it, .int y] [.int x, .int (-it), .ref 22] (am_S b) (am_sk h 22 f (r2.length)) _
          refine wp_run 1 (pc' := 154) (ls' := [.ref 19, .int a, .int b2, .int c, .int (nI i), .int it, .int y]) (st' := [.int y, .int x, .int (-it), .ref 22]) rfl ?_
          refine wp_callS (as := [.int (-it), .int x, .int y]) (rest := [.ref 22]) (els := [.int (-it), .int x, .int y]) rfl rfl rfl rfl rfl rfl rfl rfl (by omega) ?_
          refine sp_joined ?_
          show am_wp L xs _ _ _ _ 157 [.ref 19, .int a, .int b2, .int c, .int (nI i), .int it, .int y] [.int (pu_j (-it) x y), .ref 22] (am_S b) (am_sk h 22 f (r2.length)) _
          refine wp_callV (o := 22) (as := [.int (pu_j (-it) x y)]) (rest := []) (els := [.ref 22, .int (pu_j (-it) x y)]) rfl rfl rfl rfl rfl rfl rfl rfl (by omega) ?_
          refine sp_push (cap := 60) rfl rfl rfl rfl (am_sk_n h 22 f (r2.length)) (by first | omega | (simp at hlen; omega)) ?_
          rw [am_sk_push]
          show am_wp L xs _ _ _ _ 160 [.ref 19, .int a, .int b2, .int c, .int (nI i), .int it, .int y] [] (am_S b) (am_sk h 22 (upd f (r2.length) (pu_j (-it) x y)) ((r2.length) + 1)) _
          refine wp_run 2 (pc' := 31) (ls' := [.ref 19, .int a, .int b2, .int c, .int ((nI i) + 1), .int it, .int y]) (st' := []) rfl ?_
          rw [show ((nI i) + 1) = (nI (i + 1)) from nI_add i 1]
          have est : pu_st a b2 c it (y :: x :: r2) = (pu_j (-it) x y) :: r2 := by simp [pu_st, hn0, hn3, cq128]
          have := ih (i + 1) ((pu_j (-it) x y) :: r2) (upd f (r2.length) (pu_j (-it) x y)) (.int it) (.int y) (Or.inr ⟨_, rfl⟩) (Or.inr ⟨_, rfl⟩) (by omega) hq2 (by rw [← est, hsl]; exact hw) (pu_rp_push hrp.2.2) (by rw [← est, hsl]; exact hd60) (by rw [← est]; exact hrun)
          exact this
        · skip
          replace cq128 := Decidable.not_not.mp cq128
          refine wp_run 3 (pc' := 136) (ls' := [.ref 19, .int a, .int b2, .int c, .int (nI i), .int it, .int y]) (st' := [.int 0, .int y, .int 61, .ref 22]) rfl ?_
          refine wp_callS (as := [.int 61, .int y, .int 0]) (rest := [.ref 22]) (els := [.int 61, .int y, .int 0]) rfl rfl rfl rfl rfl rfl rfl rfl (by omega) ?_
          refine sp_joined ?_
          show am_wp L xs _ _ _ _ 139 [.ref 19, .int a, .int b2, .int c, .int (nI i), .int it, .int y] [.int (pu_j 61 y 0), .ref 22] (am_S b) (am_sk h 22 f (r.length)) _
          refine wp_run 1 (pc' := 157) (ls' := [.ref 19, .int a, .int b2, .int c, .int (nI i), .int it, .int y]) (st' := [.int (pu_j 61 y 0), .ref 22]) rfl ?_
          refine wp_callV (o := 22) (as := [.int (pu_j 61 y 0)]) (rest := []) (els := [.ref 22, .int (pu_j 61 y 0)]) rfl rfl rfl rfl rfl rfl rfl rfl (by omega) ?_
          refine sp_push (cap := 60) rfl rfl rfl rfl (am_sk_n h 22 f (r.length)) (by first | omega | (simp at hlen; omega)) ?_
          rw [am_sk_push]
          show am_wp L xs _ _ _ _ 160 [.ref 19, .int a, .int b2, .int c, .int (nI i), .int it, .int y] [] (am_S b) (am_sk h 22 (upd f (r.length) (pu_j 61 y 0)) ((r.length) + 1)) _
          refine wp_run 2 (pc' := 31) (ls' := [.ref 19, .int a, .int b2, .int c, .int ((nI i) + 1), .int it, .int y]) (st' := []) rfl ?_
          rw [show ((nI i) + 1) = (nI (i + 1)) from nI_add i 1]
          have est : pu_st a b2 c it (y :: r) = (pu_j 61 y 0) :: r := by simp [pu_st, hn0, hn3, cq128]
          have := ih (i + 1) ((pu_j 61 y 0) :: r) (upd f (r.length) (pu_j 61 y 0)) (.int it) (.int y) (Or.inr ⟨_, rfl⟩) (Or.inr ⟨_, rfl⟩) (by omega) hq2 (by rw [← est, hsl]; exact hw) (pu_rp_push hrp.2) (by rw [← est, hsl]; exact hd60) (by rw [← est]; exact hrun)
          exact this
      · skip
        have hn3 : -3 ≤ it := Int32.not_lt.mp cq76
        have hn0 : ¬ (0 ≤ it) := Int32.not_le.mpr cq57
        have hd1 : st.length < 60 := by unfold pu_dp at hdp; rw [if_neg hn0, if_pos hn3] at hdp; split at hdp <;> first | assumption | cases hdp
        refine wp_run 1 (pc' := 80) (ls' := [.ref 19, .int a, .int b2, .int c, .int (nI i), .int it, u6]) (st' := [.ref 19]) rfl ?_
        refine wp_getr 22 rfl rfl rfl ?_
        refine wp_run 2 (pc' := 86) (ls' := [.ref 19, .int a, .int b2, .int c, .int (nI i), .int it, u6]) (st' := [.int (-1), .int it, .ref 22]) rfl ?_
        refine wp_icmp rfl (fun (cq86 : ¬ it = (-1)) => ?_) (fun (cq86 : ¬ (¬ it = (-1))) => ?_)
        · skip
          refine wp_run 2 (pc' := 97) (ls' := [.ref 19, .int a, .int b2, .int c, .int (nI i), .int it, u6]) (st' := [.int (-2), .int it, .ref 22]) rfl ?_
          refine wp_icmp rfl (fun (cq97 : ¬ it = (-2)) => ?_) (fun (cq97 : ¬ (¬ it = (-2))) => ?_)
          · skip
            refine wp_run 1 (pc' := 105) (ls' := [.ref 19, .int a, .int b2, .int c, .int (nI i), .int it, u6]) (st' := [.int c, .ref 22]) rfl ?_
            refine wp_callV (o := 22) (as := [.int c]) (rest := []) (els := [.ref 22, .int c]) rfl rfl rfl rfl rfl rfl rfl rfl (by omega) ?_
            refine sp_push (cap := 60) rfl rfl rfl rfl (am_sk_n h 22 f st.length) (by first | omega | (simp at hlen; omega)) ?_
            rw [am_sk_push]
            show am_wp L xs _ _ _ _ 108 [.ref 19, .int a, .int b2, .int c, .int (nI i), .int it, u6] [] (am_S b) (am_sk h 22 (upd f st.length c) (st.length + 1)) _
            refine wp_run 3 (pc' := 31) (ls' := [.ref 19, .int a, .int b2, .int c, .int ((nI i) + 1), .int it, u6]) (st' := []) rfl ?_
            rw [show ((nI i) + 1) = (nI (i + 1)) from nI_add i 1]
            have est : pu_st a b2 c it st = c :: st := by simp [pu_st, hn0, hn3, cq86, cq97]
            have := ih (i + 1) (c :: st) (upd f st.length c) (.int it) u6 (Or.inr ⟨_, rfl⟩) hu6 (by omega) hq2 (by rw [← est, hsl]; exact hw) (pu_rp_push hrp) (by rw [← est, hsl]; exact hd60) (by rw [← est]; exact hrun)
            exact this
          · skip
            replace cq97 := Decidable.not_not.mp cq97
            refine wp_run 2 (pc' := 105) (ls' := [.ref 19, .int a, .int b2, .int c, .int (nI i), .int it, u6]) (st' := [.int b2, .ref 22]) rfl ?_
            refine wp_callV (o := 22) (as := [.int b2]) (rest := []) (els := [.ref 22, .int b2]) rfl rfl rfl rfl rfl rfl rfl rfl (by omega) ?_
            refine sp_push (cap := 60) rfl rfl rfl rfl (am_sk_n h 22 f st.length) (by first | omega | (simp at hlen; omega)) ?_
            rw [am_sk_push]
            show am_wp L xs _ _ _ _ 108 [.ref 19, .int a, .int b2, .int c, .int (nI i), .int it, u6] [] (am_S b) (am_sk h 22 (upd f st.length b2) (st.length + 1)) _
            refine wp_run 3 (pc' := 31) (ls' := [.ref 19, .int a, .int b2, .int c, .int ((nI i) + 1), .int it, u6]) (st' := []) rfl ?_
            rw [show ((nI i) + 1) = (nI (i + 1)) from nI_add i 1]
            have est : pu_st a b2 c it st = b2 :: st := by simp [pu_st, hn0, hn3, cq86, cq97]
            have := ih (i + 1) (b2 :: st) (upd f st.length b2) (.int it) u6 (Or.inr ⟨_, rfl⟩) hu6 (by omega) hq2 (by rw [← est, hsl]; exact hw) (pu_rp_push hrp) (by rw [← est, hsl]; exact hd60) (by rw [← est]; exact hrun)
            exact this
        · skip
          replace cq86 := Decidable.not_not.mp cq86
          refine wp_run 2 (pc' := 105) (ls' := [.ref 19, .int a, .int b2, .int c, .int (nI i), .int it, u6]) (st' := [.int a, .ref 22]) rfl ?_
          refine wp_callV (o := 22) (as := [.int a]) (rest := []) (els := [.ref 22, .int a]) rfl rfl rfl rfl rfl rfl rfl rfl (by omega) ?_
          refine sp_push (cap := 60) rfl rfl rfl rfl (am_sk_n h 22 f st.length) (by first | omega | (simp at hlen; omega)) ?_
          rw [am_sk_push]
          show am_wp L xs _ _ _ _ 108 [.ref 19, .int a, .int b2, .int c, .int (nI i), .int it, u6] [] (am_S b) (am_sk h 22 (upd f st.length a) (st.length + 1)) _
          refine wp_run 3 (pc' := 31) (ls' := [.ref 19, .int a, .int b2, .int c, .int ((nI i) + 1), .int it, u6]) (st' := []) rfl ?_
          rw [show ((nI i) + 1) = (nI (i + 1)) from nI_add i 1]
          have est : pu_st a b2 c it st = a :: st := by simp [pu_st, hn0, hn3, cq86]
          have := ih (i + 1) (a :: st) (upd f st.length a) (.int it) u6 (Or.inr ⟨_, rfl⟩) hu6 (by omega) hq2 (by rw [← est, hsl]; exact hw) (pu_rp_push hrp) (by rw [← est, hsl]; exact hd60) (by rw [← est]; exact hrun)
          exact this
    · skip
      have hn0 : 0 ≤ it := Int32.not_lt.mp cq57
      have hd1 : st.length < 60 := by unfold pu_dp at hdp; rw [if_pos hn0] at hdp; split at hdp <;> first | assumption | cases hdp
      refine wp_run 1 (pc' := 61) (ls' := [.ref 19, .int a, .int b2, .int c, .int (nI i), .int it, u6]) (st' := [.ref 19]) rfl ?_
      refine wp_getr 22 rfl rfl rfl ?_
      refine wp_run 1 (pc' := 66) (ls' := [.ref 19, .int a, .int b2, .int c, .int (nI i), .int it, u6]) (st' := [.int it, .ref 22]) rfl ?_
      refine wp_callV (o := 22) (as := [.int it]) (rest := []) (els := [.ref 22, .int it]) rfl rfl rfl rfl rfl rfl rfl rfl (by omega) ?_
      refine sp_push (cap := 60) rfl rfl rfl rfl (am_sk_n h 22 f st.length) (by first | omega | (simp at hlen; omega)) ?_
      rw [am_sk_push]
      show am_wp L xs _ _ _ _ 69 [.ref 19, .int a, .int b2, .int c, .int (nI i), .int it, u6] [] (am_S b) (am_sk h 22 (upd f st.length it) (st.length + 1)) _
      refine wp_run 3 (pc' := 31) (ls' := [.ref 19, .int a, .int b2, .int c, .int ((nI i) + 1), .int it, u6]) (st' := []) rfl ?_
      rw [show ((nI i) + 1) = (nI (i + 1)) from nI_add i 1]
      have est : pu_st a b2 c it st = it :: st := by simp [pu_st, hn0]
      have := ih (i + 1) (it :: st) (upd f st.length it) (.int it) u6 (Or.inr ⟨_, rfl⟩) hu6 (by omega) hq2 (by rw [← est, hsl]; exact hw) (pu_rp_push hrp) (by rw [← est, hsl]; exact hd60) (by rw [← est]; exact hrun)
      exact this
theorem sp_gives19 {L : Nat} {xs : Nat → Int32} {d ms b : Nat} {h : am_HI} {Q : am_Q} {lo hi2 s4 : Int32} {a b2 c : Int32} {p : List Int32} (hcs : h 20 1 = nI p.length) (hp : ∀ j (hj : j < p.length), h 21 j = p[j]) (hl : p.length ≤ 60) (hlo : h 19 0 = lo) (hhi : h 19 1 = hi2) (hlh : lo ≤ hi2) (hst : h 19 4 = s4) (hw : s4 = 0 ∨ pu_wf p 0 = some 1) (hd : 2 ≤ d) (kk : ∀ g, Q (some (.int (pu_gv s4 p a b2 c lo hi2))) (am_S b) (am_ov h [22, 23] g)) :
    am_wp L xs d 0 ms 21 0 [.ref 19, .int a, .int b2, .int c, am_du, am_du, am_du] [] (am_S b) h Q := by
  refine wp_run 1 (pc' := 1) (ls' := [.ref 19, .int a, .int b2, .int c, am_du, am_du, am_du]) (st' := [.ref 19]) rfl ?_
  refine wp_geti s4 hst rfl rfl rfl ?_
  refine wp_if rfl (fun (cq4 : ¬ s4 = 0) => ?_) (fun (cq4 : ¬ (¬ s4 = 0)) => ?_)
  · skip
    refine wp_run 1 (pc' := 21) (ls' := [.ref 19, .int a, .int b2, .int c, am_du, am_du, am_du]) (st' := [.ref 19]) rfl ?_
    refine wp_getr 22 rfl rfl rfl ?_
    refine wp_run 1 (pc' := 25) (ls' := [.ref 19, .int a, .int b2, .int c, am_du, am_du, am_du]) (st' := [.int 0, .ref 22]) rfl ?_
    refine wp_puti rfl rfl ?_
    refine wp_run 2 (pc' := 31) (ls' := [.ref 19, .int a, .int b2, .int c, .int 0, am_du, am_du]) (st' := []) rfl ?_
    rw [show ((am_u h 22 1 0) : am_HI) = am_sk h 22 (h 23) 0 from am_sk_0 h 22]
    refine lp_gives19 hcs hp hl hlo hhi hlh hd (fun f n => ?_) p 0 [] (h 23) am_du am_du (Or.inl rfl) (Or.inl rfl) (by simp) (fun j hj => ⟨by omega, by simp⟩) (hw.resolve_left cq4) trivial (by simp) rfl
    have eg : pu_gv s4 p a b2 c lo hi2 = pu_held (pu_val p a b2 c) lo hi2 := by unfold pu_gv; rw [if_neg cq4]
    rw [← eg, am_ov_of (h := h) (h' := am_sk h 22 f n) (l := [22, 23]) (fun a ha => am_sk_off h f n (fun e => by subst e; simp at ha) (fun e => by subst e; simp at ha))]
    exact kk _
  · skip
    replace cq4 := Decidable.not_not.mp cq4
    refine wp_run 2 (pc' := 9) (ls' := [.ref 19, .int a, .int b2, .int c, am_du, am_du, am_du]) (st' := [.ref 19, .int a]) rfl ?_
    refine wp_geti lo hlo rfl rfl rfl ?_
    refine wp_run 1 (pc' := 13) (ls' := [.ref 19, .int a, .int b2, .int c, am_du, am_du, am_du]) (st' := [.ref 19, .int lo, .int a]) rfl ?_
    refine wp_geti hi2 hhi rfl rfl rfl ?_
    refine wp_callS (as := [.int a, .int lo, .int hi2]) (rest := []) (els := [.int a, .int lo, .int hi2]) rfl rfl rfl rfl rfl rfl rfl rfl (by omega) ?_
    refine sp_x_held hlh (by omega) ?_
    show am_wp L xs _ _ _ _ 19 [.ref 19, .int a, .int b2, .int c, am_du, am_du, am_du] [.int (pu_held a lo hi2)] (am_S b) h _
    refine wp_ret rfl ?_
    have eg : pu_gv s4 p a b2 c lo hi2 = pu_held a lo hi2 := by unfold pu_gv; rw [if_pos cq4]
    rw [← eg]
    have := kk h
    rw [← am_ov_self] at this
    exact this
