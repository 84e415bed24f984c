/-! the abstract machine's step is sound -/
theorem am_cls_ok {c : Nat} (hc : c < 10) : ∃ (T : u_T) (ty : Nat → FieldType), am_cl[c]? = some (am_cn c, T, am_nf c) ∧ Cond.initialized (am_cn c) ∈ am_U ∧ Cond.instantiable (am_cn c) (am_nf c) ∈ am_U ∧ (∀ w ∈ u_ws (am_cn c) T (am_nf c), w ∈ am_U) ∧
    (∀ k, k < am_nf c → parseFieldDescriptor (T k).2.2.1 = some (ty k)) ∧ (∀ k, k < am_nf c → am_fk c k = 0 ∧ ty k = .int ∨ am_fk c k = 1 ∧ ty k = .boolean ∨ am_fk c k = 2 ∧ ((∃ n, ty k = .object n) ∨ ∃ t, ty k = .array t) ∨ am_fk c k = 3) ∧
    (∀ a, a < am_nf c → ∀ b, b < am_nf c → a ≠ b → (T a).2.1 ≠ (T b).2.1) := by
  have h := List.all_eq_true.mp am_cok_ok c (List.mem_range.mpr hc)
  unfold am_cok at h
  split at h
  · rename_i C T N ini ins lay ty h1 h2 h3
    simp only [Bool.and_eq_true, decide_eq_true_eq] at h
    obtain ⟨⟨⟨⟨⟨g1, g2⟩, g3⟩, g4⟩, g5⟩, g6⟩ := h
    subst g1
    subst g2
    have key : ∀ k, k < am_nf c → _ := fun k hk => List.all_eq_true.mp g6 k (List.mem_range.mpr hk)
    simp only [Bool.and_eq_true, decide_eq_true_eq] at key
    refine ⟨T, ty, h1, am_wd_mem g3, am_wd_mem g4, fun w hw => ?_, fun k hk => (key k hk).1.1.2, fun k hk => ?_, fun a ha b hb hab => ?_⟩
    · obtain ⟨k, hk, rfl⟩ := List.mem_map.mp hw
      exact am_wd_mem (key k (List.mem_range.mp hk)).1.1.1
    · have e := (key k hk).1.2
      cases hty : ty k <;> rw [hty] at e <;> dsimp only at e <;> simp [e]
    · have e := List.all_eq_true.mp (key a ha).2 b (List.mem_range.mpr hb)
      simpa [hab] using e
  · cases h
theorem am_hasF_ok {own j c k : Nat} (h : am_hasF own j c k = true) (hc : c < 10) {T : u_T} (hT : am_cl[c]? = some (am_cn c, T, am_nf c)) : Cond.fieldLink (am_cn own) j (am_cn c) (T k).2.1 (T k).2.2.1 ∈ am_U ∧ k < am_nf c ∧ (T k).1 = am_cn c := by
  obtain ⟨q, hq, hh⟩ := List.any_eq_true.mp h
  simp only [Bool.and_eq_true, beq_iff_eq] at hh
  obtain ⟨⟨⟨e1, e2⟩, e3⟩, e4⟩ := hh
  have h2 := List.all_eq_true.mp am_lf_ok q hq
  rw [e3, hT] at h2
  simp only [Bool.and_eq_true, decide_eq_true_eq] at h2
  rw [e1, e2, e4] at h2
  exact ⟨am_wd_mem h2.1.1.1, h2.1.1.2, h2.1.2⟩
theorem am_hasC_ok {own j c : Nat} (h : am_hasC own j c = true) : Cond.classLink (am_cn own) j (am_cn c) ∈ am_U ∧ c < 10 := by
  obtain ⟨q, hq, hh⟩ := List.any_eq_true.mp h
  simp only [Bool.and_eq_true, beq_iff_eq] at hh
  obtain ⟨⟨e1, e2⟩, e3⟩ := hh
  have h2 := List.all_eq_true.mp am_lc_ok q hq
  simp only [Bool.and_eq_true, decide_eq_true_eq] at h2
  rw [e1, e2, e3] at h2
  exact ⟨am_wd_mem h2.1, h2.2⟩
theorem am_hasM_ok {own j a kd : Nat} (h : am_hasM own j a kd = true) : ∃ ui, am_cw1 own j a kd ui = true ∧ (kd = 2 → (own, j, a, kd, ui) ∈ am_nmt) := by
  obtain ⟨q, hq, hh⟩ := List.any_eq_true.mp h
  simp only [Bool.and_eq_true, beq_iff_eq] at hh
  obtain ⟨⟨⟨e1, e2⟩, e3⟩, e4⟩ := hh
  have h2 := List.all_eq_true.mp am_lm_ok q hq
  obtain ⟨q1, q2, q3, q4, q5⟩ := q
  dsimp only at e1 e2 e3 e4 h2
  subst e1; subst e2; subst e3; subst e4
  exact ⟨q5, h2, fun e => List.mem_filter.mpr ⟨hq, by simp [e]⟩⟩
theorem am_okT_ok {pc a : Nat} : ∀ (os : List Int) (sw : List (Int × Nat)) (lo : Int), am_okT pc lo os sw = true → ∀ z : Int, (∀ i : Nat, z = lo + i → i < os.length → ∃ off, os[i]? = some off ∧ (pc : Int) + off = am_sw sw a z) ∧ ((z < lo ∨ lo + os.length ≤ z) → am_sw sw a z = a)
  | [], [], lo, h, z => ⟨fun i _ hi => by simp at hi, fun _ => rfl⟩
  | [], q :: r, lo, h, z => by simp [am_okT] at h
  | o :: os, [], lo, h, z => by simp [am_okT] at h
  | o :: os, (q, t) :: r, lo, h, z => by
    simp only [am_okT, Bool.and_eq_true, decide_eq_true_eq] at h
    obtain ⟨⟨rfl, h2⟩, h3⟩ := h
    obtain ⟨i1, i2⟩ := am_okT_ok (a := a) os r (q + 1) h3 z
    refine ⟨fun i hz hi => ?_, fun hz => ?_⟩
    · cases i with
      | zero =>
        have hqz : q = z := by omega
        refine ⟨o, rfl, ?_⟩
        simp only [am_sw, if_pos hqz]
        exact h2
      | succ i =>
        have hqz : ¬ q = z := by omega
        simp only [am_sw, if_neg hqz, List.getElem?_cons_succ]
        exact i1 i (by omega) (by simpa using hi)
    · have hqz : ¬ q = z := by
        simp only [List.length_cons] at hz
        omega
      simp only [am_sw, if_neg hqz]
      refine i2 ?_
      simp only [List.length_cons] at hz
      omega
theorem am_okL_ok {pc a : Nat} {df : Int} (ha : (pc : Int) + df = a) (z : Int) : ∀ (ps : List (Int × Int)) (sw : List (Int × Nat)), am_okL pc ps sw = true → (pc : Int) + Op.lookupswitch.offset ps df z = am_sw sw a z
  | [], [], h => ha
  | [], q :: r, h => by simp [am_okL] at h
  | o :: os, [], h => by simp [am_okL] at h
  | (p, o) :: os, (q, t) :: r, h => by
    simp only [am_okL, Bool.and_eq_true, decide_eq_true_eq] at h
    obtain ⟨⟨rfl, h2⟩, h3⟩ := h
    have ih := am_okL_ok ha z os r h3
    rw [Op.lookupswitch.offset_cons]
    simp only [am_sw]
    split
    · exact h2
    · exact ih
theorem am_fv_set {ad : Nat → Nat} {t a N : Nat} {z : List Nat} {f : Nat → Int32} {x : Int32} (ht : ¬ am_fk t a = 2) : ((List.range N).map (am_fv ad t z f)).set a (.int x) = (List.range N).map (am_fv ad t z (upd f a x)) := by
  apply List.ext_getElem?
  intro j
  by_cases hj : j < N
  · by_cases hja : j = a
    · subst hja
      rw [List.getElem?_set_self (by simpa using hj)]
      simp [hj, am_fv, ht, upd]
    · rw [List.getElem?_set_ne (Ne.symm hja)]
      simp [hj, am_fv, upd, hja]
  · rw [List.getElem?_eq_none (by simp; omega), List.getElem?_eq_none (by simp; omega)]
theorem am_fv_setr {ad : Nat → Nat} {t a N q : Nat} {z : List Nat} {f : Nat → Int32} (ht : am_fk t a = 2) (hz : z.length = N) : ((List.range N).map (am_fv ad t z f)).set a (.ref (ad q)) = (List.range N).map (am_fv ad t (z.set a (q + 1)) f) := by
  apply List.ext_getElem?
  intro j
  by_cases hj : j < N
  · by_cases hja : j = a
    · subst hja
      rw [List.getElem?_set_self (by simpa using hj)]
      have hjz : j < z.length := by omega
      simp [hj, am_fv, ht, hjz, am_rv, am_cv]
    · rw [List.getElem?_set_ne (Ne.symm hja)]
      simp [hj, am_fv, Ne.symm hja]
  · rw [List.getElem?_eq_none (by simp; omega), List.getElem?_eq_none (by simp; omega)]
theorem am_rf_eq {ad : Nat → Nat} {sh : am_SH} {hi : am_HI} {o t n a b : Nat} {z : List Nat} (h : sh[o]? = some (t, n, z)) (hb : b = am_fk t a) : am_cv ad (if b = 2 then am_rv (am_rf sh o a) else .int (hi o a)) = am_fv ad t z (hi o) a := by
  subst hb
  unfold am_fv am_rf
  rw [h]
  dsimp only
  split <;> rfl
theorem am_ro_rv {ad : Nat → Nat} (n : Nat) : va_rf (am_ro ad n) = am_cv ad (am_rv n) := by cases n <;> rfl
theorem am_up {p : Program} {l : Launch} {e : Env} {R : Room} {s : State} {m : MethodId} {args : Array Value} {below : List Frame} {meth : Method} {c : Code} {H : Heap} {locs : List Loc} {cells slots : Nat} {Q : State → Prop} {g : JFrame}
    (k : H.size ≤ s.heap.size + cells → W p l e R s m args below meth c H locs cells slots Q g) : W p l e R s m args below meth c H locs cells slots Q g := by
  intro T hT X
  exact k (by rw [← hT]; exact X.heapSize) T hT X
theorem am_S2 {A : Nat → Prop} {H0 H H1 : Heap} {locs locs1 : List Loc} (h : va_S A H0 H locs) (h1 : va_S A H H1 locs1) : va_S A H0 H1 locs1 :=
  ⟨Nat.le_trans h.1 h1.1, fun q g1 g2 => (h1.2.1 q (Nat.lt_of_lt_of_le g1 h.1) g2).trans (h.2.1 q g1 g2), h1.2.2⟩
theorem am_S1 {A : Nat → Prop} {H0 H : Heap} {locs : List Loc} (h : va_S A H0 H locs) : va_S A H H locs := ⟨Nat.le_refl _, fun _ _ _ => rfl, h.2.2⟩
theorem am_take {b : Nat} {st as : List Value} {o : Value} (h : (st.take b).reverse = o :: as) : st = as.reverse ++ o :: st.drop b := by
  have h1 : st.take b = as.reverse ++ [o] := by
    have := congrArg List.reverse h
    simpa using this
  calc st = st.take b ++ st.drop b := (List.take_append_drop b st).symm
    _ = as.reverse ++ o :: st.drop b := by rw [h1]; simp
theorem am_frameBlind {L : Nat} {xs : Nat → Int32} {ad : Nat → Nat} {B0 : Nat} {cs : am_CS} {D : va_G} {sh : am_SH} {hi : am_HI} {av : List Value} : FrameBlind (va_Pc av (am_B L xs ad B0 cs D sh hi)) :=
  fun a U g mk q => ⟨q.1, q.2.1.vm rfl, q.2.2⟩
set_option maxHeartbeats 4000000 in
theorem am_callok {l : Launch} {L : Nat} {xs : Nat → Int32} {ad : Nat → Nat} {B0 : Nat} {cs : am_CS} {D : va_G} {p : Program} {e : Env} {R : Room} {s : State} {m : MethodId} {args : Array Value} {below : List Frame} {meth : Method} {c : Code} {H : Heap} {locs : List Loc} {cells slots : Nat} {Qr : State → Prop} {lsr : Array Slot}
    {d mc ms M pc : Nat} {ls rest : List Value} {sh : am_SH} {hi : am_HI} {Q : am_Q} {a : Nat} {as st : List Value}
    (hCC : am_C L xs ad B0 cs D p s m args meth c M) (hRm : d ≤ R.frames ∧ 40 * d ≤ R.locals ∧ cells + mc ≤ R.cells ∧ slots + ms ≤ R.slots) (hR : am_R ad B0 cs D sh hi H) (hZ : H.size = s.heap.size + cells) (hS : va_S (fun q => B0 ≤ q) s.heap H locs) (hLR : am_LR ad lsr (am_ml M) ls)
    (hRt : am_Rt ad B0 cs D p l e R s m args below meth c Qr M (cells + mc) (slots + ms) Q) (h1 : 1 ≤ a) (h2 : a < 224)
    (h : am_call (am_PS l L xs ad B0 cs D) d mc ms M (pc + 3) ls rest sh hi Q a (am_ml a) as)
    (run : ∀ (d' m1 n1 : Nat) (Post : am_Q), d' + 1 ≤ d → cells + m1 ≤ R.cells → slots + n1 ≤ R.slots → am_cats rest ≤ 8 → Met l (am_ym a) (am_wsM a) (am_rm d' m1 n1) (va_Pc (as.map (am_cv ad)) (am_B L xs ad B0 cs D sh hi)) (am_Qc ad B0 cs D (sh.length + m1) (am_rt a) Post) m1 n1 (fun q => B0 ≤ q) →
      va_Run p l e R s m args below meth c H locs cells slots m1 n1 (F0 m pc lsr (st.map (am_cv ad))) (rest.map (am_cv ad)) (am_Qc ad B0 cs D (sh.length + m1) (am_rt a) Post (as.map (am_cv ad)).toArray) (fun q => B0 ≤ q)) :
    W p l e R s m args below meth c H locs cells slots Qr (F0 m pc lsr (st.map (am_cv ad))) := by
  obtain ⟨g1, g2, d', m1, m2, n1, n2, Post, g3, g4, g5, g6, g7⟩ := h
  have hmet := am_met h1 h2 g2 g6
  have hB0 := hCC.2.2.2.2.2.2.2
  have hrun := run d' m1 n1 Post g3 (by have := hRm.2.2.1; omega) (by have := hRm.2.2.2; omega) g1 hmet
  have hA : ∀ q : Nat, q < H.size → (B0 ≤ q) → (B0 ≤ q) := fun _ _ h => h
  cases hrt : am_rt a with
  | none =>
    rw [hrt] at hrun
    refine va_callv (a := (as.map (am_cv ad)).toArray) (S := am_SH × am_HI) hrun hS hA (fun _ h => h) (fun u t H1 locs1 ht hvm hw hB hz1 hk1 hS1 => ?_)
    obtain ⟨hR1, hl1⟩ := hB
    rw [ht] at hR1
    have q1 := hR1.2.2
    have q2 := hR.2.2
    exact g7 none u.1 u.2 hw p e R s m args below meth c H1 locs1 (cells + m1) (slots + n1) Qr lsr hCC ⟨hRm.1, hRm.2.1, by have := hRm.2.2.1; omega, by have := hRm.2.2.2; omega⟩ hR1 (by omega) hS1 hLR (hRt.le (by omega) (by omega))
  | some rt =>
    rw [hrt] at hrun
    refine va_calli (a := (as.map (am_cv ad)).toArray) (S := am_SH × am_HI) hrun hS hA (fun _ h => h) (fun r u t H1 locs1 ht hvm hw hB hz1 hk1 hS1 => ?_)
    obtain ⟨hR1, hl1⟩ := hB
    rw [ht] at hR1
    have q1 := hR1.2.2
    have q2 := hR.2.2
    exact g7 (some (.int r)) u.1 u.2 hw p e R s m args below meth c H1 locs1 (cells + m1) (slots + n1) Qr lsr hCC ⟨hRm.1, hRm.2.1, by have := hRm.2.2.1; omega, by have := hRm.2.2.2; omega⟩ hR1 (by omega) hS1 hLR (hRt.le (by omega) (by omega))
set_option maxHeartbeats 16000000 in
set_option maxRecDepth 4000 in
theorem am_sound (l : Launch) (L : Nat) (xs : Nat → Int32) (ad : Nat → Nat) (B0 : Nat) (cs : am_CS) (D : va_G) : ∀ d mc ms M pc ls st sh hi Q, am_F L xs (am_PS l L xs ad B0 cs D) d mc ms M pc ls st sh hi Q → am_PS l L xs ad B0 cs D d mc ms M pc ls st sh hi Q := by
  intro d mc ms M pc ls st sh hi Q h p e R s m args below meth c H locs cells slots Qr lsr hCC hRm hR hZ hS hLR hRt
  unfold am_F at h
  cases hins : am_ins M pc with
  | none => rw [hins] at h; exact h.elim
  | some e0 =>
    obtain ⟨i, nx, a, b, c', k, sw⟩ := e0
    rw [hins] at h
    obtain ⟨hM, ⟨n, hdec, hnx⟩, hok⟩ := am_okW hins
    have hC2 := hCC
    obtain ⟨hx, hb, hml, hown, hts, hin, hW0, hB0⟩ := hC2
    have hK := hW0.1
    have had := hW0.2.1.2.2
    obtain ⟨hP, hl1000, hHs⟩ := hR
    have hR : am_R ad B0 cs D sh hi H := ⟨hP, hl1000, hHs⟩
    have hDD : va_D (fun q => B0 ≤ q) (am_ws ad cs sh hi) := am_ws_D had hl1000
    have hA : ∀ q : Nat, s.heap.size ≤ q → (fun q : Nat => B0 ≤ q) q := fun q h => Nat.le_trans hB0 h
    subst hnx
    cases i <;> dsimp only at h
    case iconst j =>
      generalize hb1 : am_b _ a k ls st = o1 at h
      cases o1 with
      | none => exact h.elim
      | some o1 =>
      obtain ⟨ls', st'⟩ := o1
      dsimp only at h
      dsimp only [am_b] at hb1
      cases hb1
      exact lv_iconst hx hb hdec (of_decide_eq_true hok).symm (h p e R s m args below meth c H locs cells slots Qr lsr hCC hRm hR hZ hS hLR hRt)
    case bipush j =>
      generalize hb1 : am_b _ a k ls st = o1 at h
      cases o1 with
      | none => exact h.elim
      | some o1 =>
      obtain ⟨ls', st'⟩ := o1
      dsimp only at h
      dsimp only [am_b] at hb1
      cases hb1
      exact lv_bipush hx hb hdec (of_decide_eq_true hok).symm (h p e R s m args below meth c H locs cells slots Qr lsr hCC hRm hR hZ hS hLR hRt)
    case sipush j =>
      generalize hb1 : am_b _ a k ls st = o1 at h
      cases o1 with
      | none => exact h.elim
      | some o1 =>
      obtain ⟨ls', st'⟩ := o1
      dsimp only at h
      dsimp only [am_b] at hb1
      cases hb1
      exact lv_sipush hx hb hdec (of_decide_eq_true hok).symm (h p e R s m args below meth c H locs cells slots Qr lsr hCC hRm hR hZ hS hLR hRt)
    case ldc j =>
      generalize hb1 : am_b _ a k ls st = o1 at h
      cases o1 with
      | none => exact h.elim
      | some o1 =>
      obtain ⟨ls', st'⟩ := o1
      dsimp only at h
      dsimp only [am_b] at hb1
      cases hb1
      obtain ⟨q, hq, hh⟩ := List.any_eq_true.mp hok
      simp only [Bool.and_eq_true, beq_iff_eq, decide_eq_true_eq] at hh
      obtain ⟨⟨e1, e2⟩, e3⟩ := hh
      have hw := am_wd_mem (List.all_eq_true.mp am_lk_ok q hq)
      rw [e1, e2, e3] at hw
      exact lv_ldc hx hb hown (hts _ hw) hdec (h p e R s m args below meth c H locs cells slots Qr lsr hCC hRm hR hZ hS hLR hRt)
    case ldc_w j =>
      generalize hb1 : am_b _ a k ls st = o1 at h
      cases o1 with
      | none => exact h.elim
      | some o1 =>
      obtain ⟨ls', st'⟩ := o1
      dsimp only at h
      dsimp only [am_b] at hb1
      cases hb1
      obtain ⟨q, hq, hh⟩ := List.any_eq_true.mp hok
      simp only [Bool.and_eq_true, beq_iff_eq, decide_eq_true_eq] at hh
      obtain ⟨⟨e1, e2⟩, e3⟩ := hh
      have hw := am_wd_mem (List.all_eq_true.mp am_lk_ok q hq)
      rw [e1, e2, e3] at hw
      exact lv_ldcw hx hb hown (hts _ hw) hdec (h p e R s m args below meth c H locs cells slots Qr lsr hCC hRm hR hZ hS hLR hRt)
    case ldc2_w j =>
      generalize hb1 : am_b _ a k ls st = o1 at h
      cases o1 with
      | none => exact h.elim
      | some o1 =>
      obtain ⟨ls', st'⟩ := o1
      dsimp only at h
      dsimp only [am_b] at hb1
      cases hb1
      obtain ⟨q, hq, hh⟩ := List.any_eq_true.mp hok
      simp only [Bool.and_eq_true, beq_iff_eq] at hh
      obtain ⟨⟨e1, e2⟩, e3⟩ := hh
      have hw := am_wd_mem (List.all_eq_true.mp am_ll_ok q hq)
      rw [e1, e2, e3] at hw
      exact lv_ldc2 hx hb hown (hts _ hw) hdec (h p e R s m args below meth c H locs cells slots Qr lsr hCC hRm hR hZ hS hLR hRt)
    case iload j =>
      generalize hb1 : am_b _ a k ls st = o1 at h
      cases o1 with
      | none => exact h.elim
      | some o1 =>
      obtain ⟨ls', st'⟩ := o1
      dsimp only at h
      dsimp only [am_b] at hb1
      have hja := beq_iff_eq.mp hok
      subst hja
      split at hb1
      · rename_i x hl
        cases hb1
        exact lv_iload hx hb hdec (hLR.at hl (fun q => by cases q)) (h p e R s m args below meth c H locs cells slots Qr lsr hCC hRm hR hZ hS hLR hRt)
      · cases hb1
    case iload_n j =>
      generalize hb1 : am_b _ a k ls st = o1 at h
      cases o1 with
      | none => exact h.elim
      | some o1 =>
      obtain ⟨ls', st'⟩ := o1
      dsimp only at h
      dsimp only [am_b] at hb1
      split at hb1
      · rename_i x hl
        cases hb1
        exact lv_iload_n hx hb hdec (beq_iff_eq.mp hok) (hLR.at hl (fun q => by cases q)) (h p e R s m args below meth c H locs cells slots Qr lsr hCC hRm hR hZ hS hLR hRt)
      · cases hb1
    case lload_n j =>
      generalize hb1 : am_b _ a k ls st = o1 at h
      cases o1 with
      | none => exact h.elim
      | some o1 =>
      obtain ⟨ls', st'⟩ := o1
      dsimp only at h
      dsimp only [am_b] at hb1
      split at hb1
      · rename_i x hl
        cases hb1
        exact lv_lload_n hx hb hdec (beq_iff_eq.mp hok) (hLR.at hl (fun q => by cases q)) (h p e R s m args below meth c H locs cells slots Qr lsr hCC hRm hR hZ hS hLR hRt)
      · cases hb1
    case aload j =>
      generalize hb1 : am_b _ a k ls st = o1 at h
      cases o1 with
      | none => exact h.elim
      | some o1 =>
      obtain ⟨ls', st'⟩ := o1
      dsimp only at h
      dsimp only [am_b] at hb1
      have hja := beq_iff_eq.mp hok
      subst hja
      split at hb1
      · rename_i x hl
        cases hb1
        exact lv_aload hx hb hdec (hLR.at hl (fun q => by cases q)) (h p e R s m args below meth c H locs cells slots Qr lsr hCC hRm hR hZ hS hLR hRt)
      · cases hb1
    case aload_n j =>
      generalize hb1 : am_b _ a k ls st = o1 at h
      cases o1 with
      | none => exact h.elim
      | some o1 =>
      obtain ⟨ls', st'⟩ := o1
      dsimp only at h
      dsimp only [am_b] at hb1
      split at hb1
      · rename_i x hl
        cases hb1
        exact lv_aload_n hx hb hdec (beq_iff_eq.mp hok) (hLR.at hl (fun q => by cases q)) (h p e R s m args below meth c H locs cells slots Qr lsr hCC hRm hR hZ hS hLR hRt)
      · cases hb1
    case istore j =>
      generalize hb1 : am_b _ a k ls st = o1 at h
      cases o1 with
      | none => exact h.elim
      | some o1 =>
      obtain ⟨ls', st'⟩ := o1
      dsimp only at h
      dsimp only [am_b] at hb1
      have hja := beq_iff_eq.mp hok
      subst hja
      split at hb1
      · obtain ⟨rfl, hlt, lv, hlv, hk⟩ := am_st_ok hLR hb1
        exact lv_istore hx hb hdec hlv hlt rfl (fun ls2 h2 => h p e R s m args below meth c H locs cells slots Qr ls2 hCC hRm hR hZ hS (hk ls2 h2) hRt)
      · cases hb1
    case istore_n j =>
      generalize hb1 : am_b _ a k ls st = o1 at h
      cases o1 with
      | none => exact h.elim
      | some o1 =>
      obtain ⟨ls', st'⟩ := o1
      dsimp only at h
      dsimp only [am_b] at hb1
      split at hb1
      · obtain ⟨rfl, hlt, lv, hlv, hk⟩ := am_st_ok hLR hb1
        exact lv_istore_n hx hb hdec (beq_iff_eq.mp hok) hlv hlt rfl (fun ls2 h2 => h p e R s m args below meth c H locs cells slots Qr ls2 hCC hRm hR hZ hS (hk ls2 h2) hRt)
      · cases hb1
    case astore j =>
      generalize hb1 : am_b _ a k ls st = o1 at h
      cases o1 with
      | none => exact h.elim
      | some o1 =>
      obtain ⟨ls', st'⟩ := o1
      dsimp only at h
      dsimp only [am_b] at hb1
      have hja := beq_iff_eq.mp hok
      subst hja
      split at hb1
      · obtain ⟨rfl, hlt, lv, hlv, hk⟩ := am_st_ok hLR hb1
        exact lv_astore hx hb hdec hlv hlt rfl (fun ls2 h2 => h p e R s m args below meth c H locs cells slots Qr ls2 hCC hRm hR hZ hS (hk ls2 h2) hRt)
      · cases hb1
    case astore_n j =>
      generalize hb1 : am_b _ a k ls st = o1 at h
      cases o1 with
      | none => exact h.elim
      | some o1 =>
      obtain ⟨ls', st'⟩ := o1
      dsimp only at h
      dsimp only [am_b] at hb1
      split at hb1
      · obtain ⟨rfl, hlt, lv, hlv, hk⟩ := am_st_ok hLR hb1
        exact lv_astore_n hx hb hdec (beq_iff_eq.mp hok) hlv hlt rfl (fun ls2 h2 => h p e R s m args below meth c H locs cells slots Qr ls2 hCC hRm hR hZ hS (hk ls2 h2) hRt)
      · cases hb1
    case iinc j j2 =>
      generalize hb1 : am_b _ a k ls st = o1 at h
      cases o1 with
      | none => exact h.elim
      | some o1 =>
      obtain ⟨ls', st'⟩ := o1
      dsimp only at h
      dsimp only [am_b] at hb1
      have hj : j = a ∧ k = Int32.ofInt j2 := by simpa [am_okI] using hok
      obtain ⟨rfl, hk2⟩ := hj
      split at hb1
      · rename_i x hl
        obtain ⟨rfl, hlt, lv, hlv, hk⟩ := am_st_ok hLR hb1
        obtain ⟨-, lv2, hlv2, hm2⟩ := hLR
        have hat : (j, Value.int x) ∈ (j, Value.int x) :: lv := List.mem_cons_self
        refine lv_iinc (k := 0) (v := x + k) (lv := (j, Value.int x) :: lv) hx hb hdec ⟨hlv.1, hlv.2.1, fun q hq => ?_⟩ rfl (by rw [hk2]) hlt rfl (fun ls2 h2 => h p e R s m args below meth c H locs cells slots Qr ls2 hCC hRm hR hZ hS (hk ls2 ⟨h2.1, h2.2.1, fun q hq => h2.2.2 q ?_⟩) hRt)
        · rcases List.mem_cons.mp hq with rfl | hq
          · exact hlv2.2.2 _ (hm2 j (.int x) hl (fun q => by cases q))
          · exact hlv.2.2 q hq
        · rcases List.mem_cons.mp hq with rfl | hq
          · exact List.mem_cons_self
          · refine List.mem_cons_of_mem _ ?_
            obtain ⟨a1, a2⟩ := List.mem_filter.mp hq
            exact List.mem_filter.mpr ⟨List.mem_cons_of_mem _ a1, a2⟩
      · cases hb1
    case iadd =>
      generalize hb1 : am_b _ a k ls st = o1 at h
      cases o1 with
      | none => exact h.elim
      | some o1 =>
      obtain ⟨ls', st'⟩ := o1
      dsimp only at h
      dsimp only [am_b] at hb1
      split at hb1
      · cases hb1
        exact lv_iadd hx hb hdec  (h p e R s m args below meth c H locs cells slots Qr lsr hCC hRm hR hZ hS hLR hRt)
      · cases hb1
    case isub =>
      generalize hb1 : am_b _ a k ls st = o1 at h
      cases o1 with
      | none => exact h.elim
      | some o1 =>
      obtain ⟨ls', st'⟩ := o1
      dsimp only at h
      dsimp only [am_b] at hb1
      split at hb1
      · cases hb1
        exact lv_isub hx hb hdec  (h p e R s m args below meth c H locs cells slots Qr lsr hCC hRm hR hZ hS hLR hRt)
      · cases hb1
    case imul =>
      generalize hb1 : am_b _ a k ls st = o1 at h
      cases o1 with
      | none => exact h.elim
      | some o1 =>
      obtain ⟨ls', st'⟩ := o1
      dsimp only at h
      dsimp only [am_b] at hb1
      split at hb1
      · cases hb1
        exact lv_imul hx hb hdec  (h p e R s m args below meth c H locs cells slots Qr lsr hCC hRm hR hZ hS hLR hRt)
      · cases hb1
    case ineg =>
      generalize hb1 : am_b _ a k ls st = o1 at h
      cases o1 with
      | none => exact h.elim
      | some o1 =>
      obtain ⟨ls', st'⟩ := o1
      dsimp only at h
      dsimp only [am_b] at hb1
      split at hb1
      · cases hb1
        exact lv_ineg hx hb hdec  (h p e R s m args below meth c H locs cells slots Qr lsr hCC hRm hR hZ hS hLR hRt)
      · cases hb1
    case ishl =>
      generalize hb1 : am_b _ a k ls st = o1 at h
      cases o1 with
      | none => exact h.elim
      | some o1 =>
      obtain ⟨ls', st'⟩ := o1
      dsimp only at h
      dsimp only [am_b] at hb1
      split at hb1
      · cases hb1
        exact lv_ishl hx hb hdec  (h p e R s m args below meth c H locs cells slots Qr lsr hCC hRm hR hZ hS hLR hRt)
      · cases hb1
    case ishr =>
      generalize hb1 : am_b _ a k ls st = o1 at h
      cases o1 with
      | none => exact h.elim
      | some o1 =>
      obtain ⟨ls', st'⟩ := o1
      dsimp only at h
      dsimp only [am_b] at hb1
      split at hb1
      · cases hb1
        exact lv_ishr hx hb hdec  (h p e R s m args below meth c H locs cells slots Qr lsr hCC hRm hR hZ hS hLR hRt)
      · cases hb1
    case iushr =>
      generalize hb1 : am_b _ a k ls st = o1 at h
      cases o1 with
      | none => exact h.elim
      | some o1 =>
      obtain ⟨ls', st'⟩ := o1
      dsimp only at h
      dsimp only [am_b] at hb1
      split at hb1
      · cases hb1
        exact lv_iushr hx hb hdec rfl (h p e R s m args below meth c H locs cells slots Qr lsr hCC hRm hR hZ hS hLR hRt)
      · cases hb1
    case iand =>
      generalize hb1 : am_b _ a k ls st = o1 at h
      cases o1 with
      | none => exact h.elim
      | some o1 =>
      obtain ⟨ls', st'⟩ := o1
      dsimp only at h
      dsimp only [am_b] at hb1
      split at hb1
      · cases hb1
        exact lv_iand hx hb hdec  (h p e R s m args below meth c H locs cells slots Qr lsr hCC hRm hR hZ hS hLR hRt)
      · cases hb1
    case ior =>
      generalize hb1 : am_b _ a k ls st = o1 at h
      cases o1 with
      | none => exact h.elim
      | some o1 =>
      obtain ⟨ls', st'⟩ := o1
      dsimp only at h
      dsimp only [am_b] at hb1
      split at hb1
      · cases hb1
        exact lv_ior hx hb hdec  (h p e R s m args below meth c H locs cells slots Qr lsr hCC hRm hR hZ hS hLR hRt)
      · cases hb1
    case ixor =>
      generalize hb1 : am_b _ a k ls st = o1 at h
      cases o1 with
      | none => exact h.elim
      | some o1 =>
      obtain ⟨ls', st'⟩ := o1
      dsimp only at h
      dsimp only [am_b] at hb1
      split at hb1
      · cases hb1
        exact lv_ixor hx hb hdec  (h p e R s m args below meth c H locs cells slots Qr lsr hCC hRm hR hZ hS hLR hRt)
      · cases hb1
    case i2l =>
      generalize hb1 : am_b _ a k ls st = o1 at h
      cases o1 with
      | none => exact h.elim
      | some o1 =>
      obtain ⟨ls', st'⟩ := o1
      dsimp only at h
      dsimp only [am_b] at hb1
      split at hb1
      · cases hb1
        exact lv_i2l hx hb hdec rfl (h p e R s m args below meth c H locs cells slots Qr lsr hCC hRm hR hZ hS hLR hRt)
      · cases hb1
    case l2i =>
      generalize hb1 : am_b _ a k ls st = o1 at h
      cases o1 with
      | none => exact h.elim
      | some o1 =>
      obtain ⟨ls', st'⟩ := o1
      dsimp only at h
      dsimp only [am_b] at hb1
      split at hb1
      · cases hb1
        exact lv_l2i hx hb hdec rfl (h p e R s m args below meth c H locs cells slots Qr lsr hCC hRm hR hZ hS hLR hRt)
      · cases hb1
    case i2b =>
      generalize hb1 : am_b _ a k ls st = o1 at h
      cases o1 with
      | none => exact h.elim
      | some o1 =>
      obtain ⟨ls', st'⟩ := o1
      dsimp only at h
      dsimp only [am_b] at hb1
      split at hb1
      · cases hb1
        exact lv_i2b hx hb hdec rfl (h p e R s m args below meth c H locs cells slots Qr lsr hCC hRm hR hZ hS hLR hRt)
      · cases hb1
    case i2s =>
      generalize hb1 : am_b _ a k ls st = o1 at h
      cases o1 with
      | none => exact h.elim
      | some o1 =>
      obtain ⟨ls', st'⟩ := o1
      dsimp only at h
      dsimp only [am_b] at hb1
      split at hb1
      · cases hb1
        exact lv_i2s hx hb hdec rfl (h p e R s m args below meth c H locs cells slots Qr lsr hCC hRm hR hZ hS hLR hRt)
      · cases hb1
    case lshl =>
      generalize hb1 : am_b _ a k ls st = o1 at h
      cases o1 with
      | none => exact h.elim
      | some o1 =>
      obtain ⟨ls', st'⟩ := o1
      dsimp only at h
      dsimp only [am_b] at hb1
      split at hb1
      · cases hb1
        exact lv_lshl hx hb hdec rfl (h p e R s m args below meth c H locs cells slots Qr lsr hCC hRm hR hZ hS hLR hRt)
      · cases hb1
    case lshr =>
      generalize hb1 : am_b _ a k ls st = o1 at h
      cases o1 with
      | none => exact h.elim
      | some o1 =>
      obtain ⟨ls', st'⟩ := o1
      dsimp only at h
      dsimp only [am_b] at hb1
      split at hb1
      · cases hb1
        exact lv_lshr hx hb hdec rfl (h p e R s m args below meth c H locs cells slots Qr lsr hCC hRm hR hZ hS hLR hRt)
      · cases hb1
    case lushr =>
      generalize hb1 : am_b _ a k ls st = o1 at h
      cases o1 with
      | none => exact h.elim
      | some o1 =>
      obtain ⟨ls', st'⟩ := o1
      dsimp only at h
      dsimp only [am_b] at hb1
      split at hb1
      · cases hb1
        exact lv_lushr hx hb hdec rfl (h p e R s m args below meth c H locs cells slots Qr lsr hCC hRm hR hZ hS hLR hRt)
      · cases hb1
    case land =>
      generalize hb1 : am_b _ a k ls st = o1 at h
      cases o1 with
      | none => exact h.elim
      | some o1 =>
      obtain ⟨ls', st'⟩ := o1
      dsimp only at h
      dsimp only [am_b] at hb1
      split at hb1
      · cases hb1
        exact lv_land hx hb hdec  (h p e R s m args below meth c H locs cells slots Qr lsr hCC hRm hR hZ hS hLR hRt)
      · cases hb1
    case lor =>
      generalize hb1 : am_b _ a k ls st = o1 at h
      cases o1 with
      | none => exact h.elim
      | some o1 =>
      obtain ⟨ls', st'⟩ := o1
      dsimp only at h
      dsimp only [am_b] at hb1
      split at hb1
      · cases hb1
        exact lv_lor hx hb hdec  (h p e R s m args below meth c H locs cells slots Qr lsr hCC hRm hR hZ hS hLR hRt)
      · cases hb1
    case dup =>
      generalize hb1 : am_b _ a k ls st = o1 at h
      cases o1 with
      | none => exact h.elim
      | some o1 =>
      obtain ⟨ls', st'⟩ := o1
      dsimp only at h
      dsimp only [am_b] at hb1
      split at hb1
      · cases hb1
        exact lv_dup hx hb hdec rfl (h p e R s m args below meth c H locs cells slots Qr lsr hCC hRm hR hZ hS hLR hRt)
      · cases hb1
        exact lv_dup hx hb hdec rfl (h p e R s m args below meth c H locs cells slots Qr lsr hCC hRm hR hZ hS hLR hRt)
      · cases hb1
    case dup2 =>
      generalize hb1 : am_b _ a k ls st = o1 at h
      cases o1 with
      | none => exact h.elim
      | some o1 =>
      obtain ⟨ls', st'⟩ := o1
      dsimp only at h
      dsimp only [am_b] at hb1
      split at hb1
      · cases hb1
        exact lv_dup2_11 hx hb hdec rfl rfl (h p e R s m args below meth c H locs cells slots Qr lsr hCC hRm hR hZ hS hLR hRt)
      · cases hb1
    case pop =>
      generalize hb1 : am_b _ a k ls st = o1 at h
      cases o1 with
      | none => exact h.elim
      | some o1 =>
      obtain ⟨ls', st'⟩ := o1
      dsimp only at h
      dsimp only [am_b] at hb1
      split at hb1
      · cases hb1
        exact lv_pop hx hb hdec rfl (h p e R s m args below meth c H locs cells slots Qr lsr hCC hRm hR hZ hS hLR hRt)
      · cases hb1
    case goto off => exact lv_goto hx hb hdec (of_decide_eq_true hok) (h p e R s m args below meth c H locs cells slots Qr lsr hCC hRm hR hZ hS hLR hRt)
    case if_icmp cd off =>
      split at h
      · cases cd
        · exact lv_icmp_eq hx hb hdec (of_decide_eq_true hok) (fun q => h.1 q p e R s m args below meth c H locs cells slots Qr lsr hCC hRm hR hZ hS hLR hRt) (fun q => h.2 q p e R s m args below meth c H locs cells slots Qr lsr hCC hRm hR hZ hS hLR hRt)
        · exact lv_icmp_ne hx hb hdec (of_decide_eq_true hok) (fun q => h.1 q p e R s m args below meth c H locs cells slots Qr lsr hCC hRm hR hZ hS hLR hRt) (fun q => h.2 (fun q2 => q2 q) p e R s m args below meth c H locs cells slots Qr lsr hCC hRm hR hZ hS hLR hRt)
        · exact lv_icmp_lt hx hb hdec (of_decide_eq_true hok) (fun q => h.1 q p e R s m args below meth c H locs cells slots Qr lsr hCC hRm hR hZ hS hLR hRt) (fun q => h.2 q p e R s m args below meth c H locs cells slots Qr lsr hCC hRm hR hZ hS hLR hRt)
        · exact lv_icmp_ge hx hb hdec (of_decide_eq_true hok) (fun q => h.1 q p e R s m args below meth c H locs cells slots Qr lsr hCC hRm hR hZ hS hLR hRt) (fun q => h.2 q p e R s m args below meth c H locs cells slots Qr lsr hCC hRm hR hZ hS hLR hRt)
        · exact lv_icmp_gt hx hb hdec (of_decide_eq_true hok) (fun q => h.1 q p e R s m args below meth c H locs cells slots Qr lsr hCC hRm hR hZ hS hLR hRt) (fun q => h.2 q p e R s m args below meth c H locs cells slots Qr lsr hCC hRm hR hZ hS hLR hRt)
        · exact lv_icmp_le hx hb hdec (of_decide_eq_true hok) (fun q => h.1 q p e R s m args below meth c H locs cells slots Qr lsr hCC hRm hR hZ hS hLR hRt) (fun q => h.2 q p e R s m args below meth c H locs cells slots Qr lsr hCC hRm hR hZ hS hLR hRt)
      · exact h.elim
    case ifCond cd off =>
      split at h
      · cases cd
        · exact lv_if_eq hx hb hdec (of_decide_eq_true hok) (fun q => h.1 q p e R s m args below meth c H locs cells slots Qr lsr hCC hRm hR hZ hS hLR hRt) (fun q => h.2 q p e R s m args below meth c H locs cells slots Qr lsr hCC hRm hR hZ hS hLR hRt)
        · exact lv_if_ne hx hb hdec (of_decide_eq_true hok) (fun q => h.1 q p e R s m args below meth c H locs cells slots Qr lsr hCC hRm hR hZ hS hLR hRt) (fun q => h.2 (fun q2 => q2 q) p e R s m args below meth c H locs cells slots Qr lsr hCC hRm hR hZ hS hLR hRt)
        · exact lv_if_lt hx hb hdec (of_decide_eq_true hok) (fun q => h.1 q p e R s m args below meth c H locs cells slots Qr lsr hCC hRm hR hZ hS hLR hRt) (fun q => h.2 q p e R s m args below meth c H locs cells slots Qr lsr hCC hRm hR hZ hS hLR hRt)
        · exact lv_if_ge hx hb hdec (of_decide_eq_true hok) (fun q => h.1 q p e R s m args below meth c H locs cells slots Qr lsr hCC hRm hR hZ hS hLR hRt) (fun q => h.2 q p e R s m args below meth c H locs cells slots Qr lsr hCC hRm hR hZ hS hLR hRt)
        · exact lv_if_gt hx hb hdec (of_decide_eq_true hok) (fun q => h.1 q p e R s m args below meth c H locs cells slots Qr lsr hCC hRm hR hZ hS hLR hRt) (fun q => h.2 q p e R s m args below meth c H locs cells slots Qr lsr hCC hRm hR hZ hS hLR hRt)
        · exact lv_if_le hx hb hdec (of_decide_eq_true hok) (fun q => h.1 q p e R s m args below meth c H locs cells slots Qr lsr hCC hRm hR hZ hS hLR hRt) (fun q => h.2 q p e R s m args below meth c H locs cells slots Qr lsr hCC hRm hR hZ hS hLR hRt)
      · exact h.elim
    case tableswitch df lo hi2 offs =>
      have hj : ((pc : Int) + df = a ∧ lo + offs.size = hi2 + 1) ∧ am_okT pc lo offs.toList sw = true := by simpa [am_okI] using hok
      obtain ⟨⟨j1, j2⟩, j3⟩ := hj
      split at h
      · rename_i x r
        obtain ⟨i1, i2⟩ := am_okT_ok (a := a) _ _ _ j3 x.toInt
        by_cases hr : x.toInt < lo ∨ hi2 < x.toInt
        · rw [i2 (by rcases hr with q | q; exact Or.inl q; right; simp only [Array.length_toList]; omega)] at h
          exact lv_tableOut hx hb hdec hr j1 (h p e R s m args below meth c H locs cells slots Qr lsr hCC hRm hR hZ hS hLR hRt)
        · have hr1 : ¬ x.toInt < lo := fun q => hr (Or.inl q)
          have hr2 : ¬ hi2 < x.toInt := fun q => hr (Or.inr q)
          obtain ⟨off, o1, o2⟩ := i1 (x.toInt - lo).toNat (by omega) (by simp only [Array.length_toList]; omega)
          exact lv_tableIn hx hb hdec hr1 hr2 (by rw [← Array.getElem?_toList]; exact o1) o2 (h p e R s m args below meth c H locs cells slots Qr lsr hCC hRm hR hZ hS hLR hRt)
      · exact h.elim
    case lookupswitch df ps =>
      unfold am_okI at hok
      dsimp only at hok
      rw [Bool.and_eq_true, Bool.and_eq_true] at hok
      obtain ⟨⟨j1, j2⟩, j3⟩ := hok
      split at h
      · rename_i x r
        exact lv_lookup hx hb hdec j2 rfl (am_okL_ok (of_decide_eq_true j1) x.toInt _ _ j3) (h p e R s m args below meth c H locs cells slots Qr lsr hCC hRm hR hZ hS hLR hRt)
      · exact h.elim
    case idiv =>
      split at h
      · exact lv_idiv hx hb hdec h.1 (h.2 p e R s m args below meth c H locs cells slots Qr lsr hCC hRm hR hZ hS hLR hRt)
      · exact h.elim
    case irem =>
      split at h
      · exact lv_irem hx hb hdec h.1 (h.2 p e R s m args below meth c H locs cells slots Qr lsr hCC hRm hR hZ hS hLR hRt)
      · exact h.elim
    case getfield j =>
      have hj : (am_hasF (am_ow M) j c' a = true ∧ b = am_fk c' a) ∧ c' < 10 := by simpa [am_okI] using hok
      obtain ⟨⟨j1, j2⟩, j3⟩ := hj
      split at h
      · rename_i o r
        obtain ⟨⟨z, hz, -, hzl⟩, h⟩ := h
        obtain ⟨T, ty, t1, t2, t3, t4, t5, t6, t7⟩ := am_cls_ok j3
        obtain ⟨f1, f2, f3⟩ := am_hasF_ok j1 j3 t1
        have h2 := h p e R s m args below meth c H locs cells slots Qr lsr hCC hRm hR hZ hS hLR hRt
        rw [List.map_cons, am_rf_eq (ad := ad) hz j2] at h2
        exact va_get (D := D) (cl := am_cl) (tys := am_tl cs) hx hb hts t4 hown hK hP o (am_ws_ob hz j3) t1 a f2 (hts _ f1) (fun x h9 => by rw [f3] at h9; exact h9) (by simp [f2]) hdec h2
      · exact h.elim
    case putfield j =>
      have hj : ((am_hasF (am_ow M) j c' a = true ∧ b = am_fk c' a) ∧ c' < 10) ∧ (am_fin c' a = false ∨ am_in M = true ∧ am_ow M = c') := by simpa [am_okI] using hok
      obtain ⟨⟨⟨j1, j2⟩, j3⟩, j4⟩ := hj
      obtain ⟨T, ty, t1, t2, t3, t4, t5, t6, t7⟩ := am_cls_ok j3
      obtain ⟨f1, f2, f3⟩ := am_hasF_ok j1 j3 t1
      have hfin : am_fin c' a = (T a).2.2.2 := by unfold am_fin; rw [t1]
      split at h
      · rename_i x o r
        obtain ⟨⟨z, hz, -, hzl⟩, hb2, hb01, h⟩ := h
        have hcell : ((List.range (am_nf c')).map (am_fv ad c' z (hi o))).set a (.int x) = (List.range (am_nf c')).map (am_fv ad c' z (am_u hi o a x o)) := by
          rw [am_fv_set (by rw [← j2]; exact hb2), am_u_row]
        have hnar : narrow (ty a) (.int x) = .int x ∧ fits (ty a) (.int x) = true := by
          rcases t6 a f2 with ⟨q1, q2⟩ | ⟨q1, q2⟩ | ⟨q1, q2⟩ | q1
          · rw [q2]; exact ⟨rfl, rfl⟩
          · rw [q2]
            rcases hb01 (by rw [j2, q1]) with rfl | rfl <;> exact ⟨rfl, rfl⟩
          · exact absurd (by rw [j2, q1]) hb2
          · have hall : (List.range 10).all (fun c => (List.range (am_nf c)).all fun k => decide (am_fk c k < 3)) = true := by decide +kernel
            have := of_decide_eq_true (List.all_eq_true.mp (List.all_eq_true.mp hall c' (List.mem_range.mpr j3)) a (List.mem_range.mpr f2))
            omega
        have hws : (am_ws ad cs sh hi).set o (ad o, .inr (c', ((List.range (am_nf c')).map (am_fv ad c' z (hi o))).set a (.int x))) = am_ws ad cs sh (am_u hi o a x) := by
          have e1 := am_ws_set (ad := ad) (cs := cs) (sh' := sh) (hi' := am_u hi o a x) (hi := hi) rfl (am_lt hz) (fun j hj => ⟨rfl, am_u_off hi a x hj⟩)
          rw [← e1, hcell]
          congr 2
          have e2 := am_ws_ob (ad := ad) (cs := cs) (hi := am_u hi o a x) hz j3
          rw [am_ws_at (am_lt hz)] at e2
          exact (congrArg Prod.snd (Option.some.inj e2)).symm
        have kk : ∀ (H1 : Heap) (locs1 : List Loc), va_P D am_cl ((am_ws ad cs sh hi).set o (ad o, .inr (c', ((List.range (am_nf c')).map (am_fv ad c' z (hi o))).set a (.int x)))) H1 → va_D (fun q => B0 ≤ q) ((am_ws ad cs sh hi).set o (ad o, .inr (c', ((List.range (am_nf c')).map (am_fv ad c' z (hi o))).set a (.int x)))) → va_S (fun q => B0 ≤ q) H H1 locs1 →
            W p l e R s m args below meth c H1 locs1 cells slots Qr (F0 m (pc + 3) lsr (r.map (am_cv ad))) := by
          intro H1 locs1 hP1 _ hS1
          rw [hws] at hP1
          refine am_up fun hup => ?_
          have hlo := hS1.1
          exact h p e R s m args below meth c H1 locs1 cells slots Qr lsr hCC hRm ⟨hP1, hl1000, by omega⟩ (by omega) (am_S2 hS hS1) hLR hRt
        rcases hfb : (T a).2.2.2 with _ | _
        · exact va_put (D := D) (cl := am_cl) (tys := am_tl cs) hx hb hts t4 ty t5 t7 hown hK hP hDD (am_S1 hS) o (am_ws_ob hz j3) t1 a f2 (hts _ f1) (fun x h9 => by rw [f3] at h9; exact h9) hfb (t5 a f2) hnar.1 hnar.2 (by simp [f2]) hdec kk
        · rcases j4 with j4 | ⟨j4, j5⟩
          · rw [hfin, hfb] at j4; cases j4
          · exact va_putF (D := D) (cl := am_cl) (tys := am_tl cs) hx hb hts t4 ty t5 t7 hown hK hP hDD (am_S1 hS) o (am_ws_ob hz j3) t1 a f2 (hts _ f1) (fun x h9 => by rw [f3] at h9; exact h9) hfb (hin j4) (by rw [f3, j5]) (t5 a f2) hnar.1 hnar.2 (by simp [f2]) hdec kk
      · rename_i v o r
        obtain ⟨⟨z, hz, -, hzl⟩, hb2, h⟩ := h
        have hnar : narrow (ty a) (.ref (ad v)) = .ref (ad v) ∧ fits (ty a) (.ref (ad v)) = true := by
          rcases t6 a f2 with ⟨q1, q2⟩ | ⟨q1, q2⟩ | ⟨q1, ⟨n9, q2⟩ | ⟨n9, q2⟩⟩ | q1
          · omega
          · omega
          · rw [q2]; exact ⟨rfl, rfl⟩
          · rw [q2]; exact ⟨rfl, rfl⟩
          · omega
        have hcell : ((List.range (am_nf c')).map (am_fv ad c' z (hi o))).set a (.ref (ad v)) = (List.range (am_nf c')).map (am_fv ad c' (z.set a (v + 1)) (hi o)) := am_fv_setr (by rw [← j2]; exact hb2) hzl
        have hws : (am_ws ad cs sh hi).set o (ad o, .inr (c', ((List.range (am_nf c')).map (am_fv ad c' z (hi o))).set a (.ref (ad v)))) = am_ws ad cs (am_sr sh o a (v + 1)) hi := by
          have e1 := am_ws_set (ad := ad) (cs := cs) (sh := sh) (sh' := am_sr sh o a (v + 1)) (hi' := hi) (hi := hi) am_sr_len (am_lt hz) (fun j hj => ⟨am_sr_off hj, rfl⟩)
          rw [← e1, hcell]
          congr 2
          have e2 := am_ws_ob (ad := ad) (cs := cs) (hi := hi) (am_sr_at (k := a) (v := v + 1) hz) j3
          rw [am_ws_at (am_lt (am_sr_at (k := a) (v := v + 1) hz))] at e2
          exact (congrArg Prod.snd (Option.some.inj e2)).symm
        have kk : ∀ (H1 : Heap) (locs1 : List Loc), va_P D am_cl ((am_ws ad cs sh hi).set o (ad o, .inr (c', ((List.range (am_nf c')).map (am_fv ad c' z (hi o))).set a (.ref (ad v))))) H1 → va_D (fun q => B0 ≤ q) ((am_ws ad cs sh hi).set o (ad o, .inr (c', ((List.range (am_nf c')).map (am_fv ad c' z (hi o))).set a (.ref (ad v))))) → va_S (fun q => B0 ≤ q) H H1 locs1 →
            W p l e R s m args below meth c H1 locs1 cells slots Qr (F0 m (pc + 3) lsr (r.map (am_cv ad))) := by
          intro H1 locs1 hP1 _ hS1
          rw [hws] at hP1
          refine am_up fun hup => ?_
          have hlo := hS1.1
          exact h p e R s m args below meth c H1 locs1 cells slots Qr lsr hCC hRm ⟨hP1, by rw [am_sr_len]; exact hl1000, by rw [am_sr_len]; omega⟩ (by omega) (am_S2 hS hS1) hLR hRt
        rcases hfb : (T a).2.2.2 with _ | _
        · exact va_put (D := D) (cl := am_cl) (tys := am_tl cs) hx hb hts t4 ty t5 t7 hown hK hP hDD (am_S1 hS) o (am_ws_ob hz j3) t1 a f2 (hts _ f1) (fun x h9 => by rw [f3] at h9; exact h9) hfb (t5 a f2) hnar.1 hnar.2 (by simp [f2]) hdec kk
        · rcases j4 with j4 | ⟨j4, j5⟩
          · rw [hfin, hfb] at j4; cases j4
          · exact va_putF (D := D) (cl := am_cl) (tys := am_tl cs) hx hb hts t4 ty t5 t7 hown hK hP hDD (am_S1 hS) o (am_ws_ob hz j3) t1 a f2 (hts _ f1) (fun x h9 => by rw [f3] at h9; exact h9) hfb (hin j4) (by rw [f3, j5]) (t5 a f2) hnar.1 hnar.2 (by simp [f2]) hdec kk
      · exact h.elim
    case getstatic j =>
      obtain ⟨q, hq, hh⟩ := List.any_eq_true.mp hok
      simp only [Bool.and_eq_true, beq_iff_eq] at hh
      obtain ⟨⟨e1, e2⟩, e3⟩ := hh
      have hw := List.all_eq_true.mp am_ls_ok q hq
      have h2 := h p e R s m args below meth c H locs cells slots Qr lsr hCC hRm hR hZ hS hLR hRt
      obtain ⟨-, -, hs1, hs2, hs3, -, -, hNW⟩ := hW0
      have hq3 : q.2.2.1 = 1001 ∨ q.2.2.1 = 1002 ∨ q.2.2.1 = 1003 := by
        split at hw
        · rename_i n9 d9 hn9
          have h9 := (List.getElem?_eq_some_iff.mp hn9).1
          rw [Bool.and_eq_true, decide_eq_true_eq] at hw
          have h8 : am_sn.length = 3 := rfl
          omega
        · cases hw
      have go : ∀ n9 d9, am_sn[q.2.2.1 - 1001]? = some (n9, d9) → va_Z "WrongCoats" n9 d9 (.ref (ad a)) (fun q => B0 ≤ q) s s.heap → W p l e R s m args below meth c H locs cells slots Qr (F0 m pc lsr (st.map (am_cv ad))) := by
        intro n9 d9 hn9 hz9
        rw [hn9] at hw
        dsimp only at hw
        rw [Bool.and_eq_true] at hw
        by_cases hnest : q.2.2.2.1 = 1
        · have hN := hNW.1 q (List.mem_filter.mpr ⟨hq, by simp [hnest]⟩) n9 d9 hn9
          rw [e1, e2] at hN
          exact va_getsN hx hb hz9 hS hown (va_Nw.use rfl hN) (fun _ h9 => h9) hdec h2
        · rw [if_neg hnest] at hw
          have hw2 := am_wd_mem hw.2
          rw [e1, e2] at hw2
          exact va_gets hx hb hz9 hS hown (hts _ hw2) (fun _ h9 => h9) hdec h2
      rcases hq3 with q3 | q3 | q3 <;> rw [q3] at go <;> rw [q3] at e3 <;> subst e3
      · exact go _ _ rfl hs1.1
      · exact go _ _ rfl hs2.1
      · exact go _ _ rfl hs3.1
    case iaload =>
      split at h
      · rename_i j o r
        obtain ⟨n0, f, hia, hv, h⟩ := h
        have h2 := h p e R s m args below meth c H locs cells slots Qr lsr hCC hRm hR hZ hS hLR hRt
        rcases hia with ⟨z, hz, rfl⟩ | ⟨rfl, rfl, rfl⟩ | ⟨rfl, rfl, rfl⟩ | ⟨rfl, rfl, rfl⟩
        · exact va_iald hx hb hK hP o 0 (am_ws_ia hz) rfl hv hdec h2
        · exact va_sld hx hb hW0.2.1.1 (Nat.lt_of_lt_of_le hW0.2.1.2.1 hB0) (Nat.not_le.mpr hW0.2.1.2.1) hS hv hdec h2
        · exact va_ti hx hb hW0.2.2.1.2 hS hv rfl hdec h2
        · exact va_ti hx hb hW0.2.2.2.1.2 hS hv rfl hdec h2
      · exact h.elim
    case caload =>
      split at h
      · rename_i j o r
        obtain ⟨rfl, hv, h⟩ := h
        have h2 := h p e R s m args below meth c H locs cells slots Qr lsr hCC hRm hR hZ hS hLR hRt
        exact va_tc hx hb hW0.2.2.2.2.1.2 hS hv rfl hdec h2
      · exact h.elim
    case arraylength =>
      split at h
      · rename_i o r
        obtain ⟨n0, hia, h⟩ := h
        have h2 := h p e R s m args below meth c H locs cells slots Qr lsr hCC hRm hR hZ hS hLR hRt
        rcases hia with ⟨z, hz⟩ | ⟨rfl, rfl⟩ | ⟨rfl, rfl⟩
        · exact va_alen hx hb hK hP o 0 (am_ws_ia hz) rfl rfl hdec h2
        · exact va_slen hx hb hW0.2.1.1 (Nat.lt_of_lt_of_le hW0.2.1.2.1 hB0) (Nat.not_le.mpr hW0.2.1.2.1) hS hdec h2
        · exact va_tlen hx hb hW0.2.2.2.2.1.2 hS rfl hdec h2
      · exact h.elim
    case iastore =>
      split at h
      · rename_i x j o r
        obtain ⟨n0, z, hz, hv, h⟩ := h
        have hws : (am_ws ad cs sh hi).set o (ad o, .inl (cs.1, n0, .inl (upd (hi o) j.toNatClampNeg x))) = am_ws ad cs sh (am_u hi o j.toNatClampNeg x) := by
          have e1 := am_ws_set (ad := ad) (cs := cs) (sh' := sh) (hi' := am_u hi o j.toNatClampNeg x) (hi := hi) rfl (am_lt hz) (fun j9 hj => ⟨rfl, am_u_off hi _ x hj⟩)
          rw [← e1]
          congr 2
          have e2 := am_ws_ia (ad := ad) (cs := cs) (hi := am_u hi o j.toNatClampNeg x) hz
          rw [am_ws_at (am_lt hz), am_u_row] at e2
          exact (congrArg Prod.snd (Option.some.inj e2)).symm
        refine va_iast hx hb hK hP hDD (am_S1 hS) o 0 (am_ws_ia hz) rfl hv hdec (fun H1 locs1 hP1 _ hS1 => ?_)
        rw [hws] at hP1
        refine am_up fun hup => ?_
        have hlo := hS1.1
        exact h p e R s m args below meth c H1 locs1 cells slots Qr lsr hCC hRm ⟨hP1, hl1000, by omega⟩ (by omega) (am_S2 hS hS1) hLR hRt
      · exact h.elim
    case aaload =>
      split at h
      · rename_i j o r
        obtain ⟨t0, n0, z, hz, ht0, hv, h⟩ := h
        have h2 := h p e R s m args below meth c H locs cells slots Qr lsr hCC hRm hR hZ hS hLR hRt
        rw [List.map_cons, ← am_ro_rv] at h2
        rcases ht0 with rfl | rfl
        · exact va_aldq hx hb hK hP o 1 (am_ws_ra hz) rfl hv hdec h2
        · exact va_aldq hx hb hK hP o 2 (am_ws_rb hz) rfl hv hdec h2
      · exact h.elim
    case aastore =>
      split at h
      · rename_i v j o r
        obtain ⟨t0, n0, z, hz, ht0, hzl, hv, h⟩ := h
        have hjn : j.toNatClampNeg < z.length := by
          rw [← hzl]
          exact Nat.not_le.mp fun q => hv (Or.inr q)
        have hup : (va_up (fun j => am_ro ad (z.getD j 0)) j.toNatClampNeg (some (ad v))) = fun j9 => am_ro ad ((z.set j.toNatClampNeg (v + 1)).getD j9 0) := by
          funext j9
          unfold va_up
          by_cases hj9 : j9 = j.toNatClampNeg
          · subst hj9
            rw [if_pos rfl, List.getD_eq_getElem?_getD, List.getElem?_set_self hjn]
            rfl
          · rw [if_neg hj9]
            show am_ro ad (z.getD j9 0) = _
            rw [List.getD_eq_getElem?_getD, List.getD_eq_getElem?_getD, List.getElem?_set_ne (Ne.symm hj9)]
        have hsz := am_sr_at (k := j.toNatClampNeg) (v := v + 1) hz
        have e1 := am_ws_set (ad := ad) (cs := cs) (sh := sh) (sh' := am_sr sh o j.toNatClampNeg (v + 1)) (hi' := hi) (hi := hi) am_sr_len (am_lt hz) (fun j hj => ⟨am_sr_off hj, rfl⟩)
        rcases ht0 with ⟨rfl, zv, hzv, -, -⟩ | ⟨rfl, zv, hzv, -, -⟩
        · obtain ⟨T, ty, t1, -⟩ := am_cls_ok (c := 3) (by omega)
          refine va_astq hx hb hK hP hDD (am_S1 hS) o 1 v 3 (am_ws_ra hz) (r := (am_cn 3, T, am_nf 3)) rfl (am_ws_ob hzv (by omega)) t1 hv hdec (fun H1 locs1 hP1 _ hS1 => ?_)
          have hws : (am_ws ad cs sh hi).set o (ad o, .inl (cs.2.1, n0, .inr (.inr (.inr (.inr (va_up (fun j => am_ro ad (z.getD j 0)) j.toNatClampNeg (some (ad v)))))))) = am_ws ad cs (am_sr sh o j.toNatClampNeg (v + 1)) hi := by
            rw [← e1, hup]
            congr 2
            have e2 := am_ws_ra (ad := ad) (cs := cs) (hi := hi) hsz
            rw [am_ws_at (am_lt hsz)] at e2
            exact (congrArg Prod.snd (Option.some.inj e2)).symm
          rw [hws] at hP1
          refine am_up fun hup => ?_
          have hlo := hS1.1
          exact h p e R s m args below meth c H1 locs1 cells slots Qr lsr hCC hRm ⟨hP1, by rw [am_sr_len]; exact hl1000, by rw [am_sr_len]; omega⟩ (by omega) (am_S2 hS hS1) hLR hRt
        · obtain ⟨T, ty, t1, -⟩ := am_cls_ok (c := 5) (by omega)
          refine va_astq hx hb hK hP hDD (am_S1 hS) o 2 v 5 (am_ws_rb hz) (r := (am_cn 5, T, am_nf 5)) rfl (am_ws_ob hzv (by omega)) t1 hv hdec (fun H1 locs1 hP1 _ hS1 => ?_)
          have hws : (am_ws ad cs sh hi).set o (ad o, .inl (cs.2.2, n0, .inr (.inr (.inr (.inr (va_up (fun j => am_ro ad (z.getD j 0)) j.toNatClampNeg (some (ad v)))))))) = am_ws ad cs (am_sr sh o j.toNatClampNeg (v + 1)) hi := by
            rw [← e1, hup]
            congr 2
            have e2 := am_ws_rb (ad := ad) (cs := cs) (hi := hi) hsz
            rw [am_ws_at (am_lt hsz)] at e2
            exact (congrArg Prod.snd (Option.some.inj e2)).symm
          rw [hws] at hP1
          refine am_up fun hup => ?_
          have hlo := hS1.1
          exact h p e R s m args below meth c H1 locs1 cells slots Qr lsr hCC hRm ⟨hP1, by rw [am_sr_len]; exact hl1000, by rw [am_sr_len]; omega⟩ (by omega) (am_S2 hS hS1) hLR hRt
      · exact h.elim
    case newarray t0 =>
      have hj : t0 = .int := of_decide_eq_true hok
      subst hj
      split at h
      · rename_i n0 r
        obtain ⟨h1, h2, h3, h4, h5, h6, h⟩ := h
        refine va_newaK hx hb (hts _ (am_wd_mem am_wa_ok)) rfl hdec rfl h1 rfl (by show _ * 4 ≤ _; omega) (by have := hRm.2.2.1; omega) (by have := hRm.2.2.2; omega) rfl (fun H1 cA c1 c2 c3 c4 c5 => ?_)
        have hcA : cA = cs.1 := by
          have := (hK.2 0 _ rfl).2
          exact Option.some.inj (c5.symm.trans this)
        subst hcA
        have hle : s.heap.size ≤ H.size := hS.1
        have hP1 : va_P D am_cl (am_ws ad cs (sh ++ [(20, n0.toNatClampNeg, [])]) hi) H1 := by
          rw [am_ws_push]
          refine (hP.kept (fun k q hk => c3 q.1 (hP k q hk).lt)).app (fun k q hk => ?_)
          have hz0 : k < 1 := (List.getElem?_eq_some_iff.mp hk).1
          rw [show k = 0 by omega] at hk
          cases hk
          have hsh : (sh ++ [(20, n0.toNatClampNeg, [])])[sh.length]? = some (20, n0.toNatClampNeg, ([] : List Nat)) := by simp
          have e2 : am_ce ad cs (sh ++ [(20, n0.toNatClampNeg, [])]) hi sh.length = .inl (cs.1, n0.toNatClampNeg, .inl (hi sh.length)) := by
            simp only [am_ce, hsh, if_true]
          rw [e2]
          show H1[ad sh.length]? = some (vp_cell _ _)
          rw [had _ hl1000, ← hHs, c1, vp_cell_i]
          congr 2
          funext j
          rw [h4 j]
          rfl
        refine (h p e R s m args below meth c H1 locs (cells + 1) (slots + n0.toNatClampNeg) Qr lsr hCC ⟨hRm.1, hRm.2.1, by have := hRm.2.2.1; omega, by have := hRm.2.2.2; omega⟩ ⟨hP1, by simp; omega, by simp; omega⟩ (by omega) ⟨by omega, fun q g1 g2 => (c3 q (by omega)).trans (hS.2.1 q g1 g2), hS.2.2⟩ hLR (hRt.le (by omega) (by omega))) |> W.eq ?_
        show _ = F0 m (pc + 2) lsr (.ref (ad sh.length) :: r.map (am_cv ad))
        rw [had _ hl1000, ← hHs]
      · exact h.elim
    case new j =>
      have hj := hok
      obtain ⟨h1, h2, h3, h4, h5, h⟩ := h
      obtain ⟨f1, f2⟩ := am_hasC_ok hj
      obtain ⟨T, ty, t1, t2, t3, t4, t5, t6, t7⟩ := am_cls_ok f2
      have hKn := hK.1 a _ t1
      refine W.newcK hx hb hown (hts _ f1) (hts _ t3) (hts _ t2) rfl hdec (by have := hRm.2.2.1; omega) (by have := hRm.2.2.2; omega) hKn.2.1 rfl fun H1 kC hkC c1 c2 c3 => ?_
      have hle : s.heap.size ≤ H.size := hS.1
      have hP1 : va_P D am_cl (am_ws ad cs (sh ++ [(a, am_nf a, List.replicate (am_nf a) 0)]) hi) H1 := by
        rw [am_ws_push]
        refine (hP.kept (fun k q hk => c3 q.1 (hP k q hk).lt)).app (fun k q hk => ?_)
        have hz0 : k < 1 := (List.getElem?_eq_some_iff.mp hk).1
        rw [show k = 0 by omega] at hk
        cases hk
        have hsh : (sh ++ [(a, am_nf a, List.replicate (am_nf a) 0)])[sh.length]? = some (a, am_nf a, List.replicate (am_nf a) 0) := by simp
        have g1 : ¬ a = 20 := by omega
        have g2 : ¬ a = 21 := by omega
        have g3 : ¬ a = 22 := by omega
        have e2 : am_ce ad cs (sh ++ [(a, am_nf a, List.replicate (am_nf a) 0)]) hi sh.length = .inr (a, (List.range (am_nf a)).map (am_fv ad a (List.replicate (am_nf a) 0) (hi sh.length))) := by
          simp only [am_ce, hsh, g1, g2, g3, if_false]
        rw [e2]
        refine ⟨_, t1, ?_⟩
        rw [had _ hl1000, ← hHs]
        refine (u_born ty hts t4 hKn hkC c1 t5).to (fun j9 hj9 => ?_)
        have hj9 : j9 < am_nf a := hj9
        have e3 : vp_V ((List.range (am_nf a)).map (am_fv ad a (List.replicate (am_nf a) 0) (hi sh.length))) j9 = am_fv ad a (List.replicate (am_nf a) 0) (hi sh.length) j9 := by
          simp [vp_V, hj9]
        rw [e3]
        unfold am_fv
        rw [h2 j9]
        have e4 : (List.replicate (am_nf a) 0).getD j9 0 = 0 := by simp [hj9]
        rw [e4]
        rcases t6 j9 hj9 with ⟨q1, q2⟩ | ⟨q1, q2⟩ | ⟨q1, ⟨n9, q2⟩ | ⟨n9, q2⟩⟩ | q1
        · rw [q1, q2]; rfl
        · rw [q1, q2]; rfl
        · rw [q1, q2]; rfl
        · rw [q1, q2]; rfl
        · have hall : (List.range 10).all (fun c => (List.range (am_nf c)).all fun k => decide (am_fk c k < 3)) = true := by decide +kernel
          have := of_decide_eq_true (List.all_eq_true.mp (List.all_eq_true.mp hall a (List.mem_range.mpr f2)) j9 (List.mem_range.mpr hj9))
          omega
      refine (h p e R s m args below meth c H1 locs (cells + 1) (slots + am_nf a) Qr lsr hCC ⟨hRm.1, hRm.2.1, by have := hRm.2.2.1; omega, by have := hRm.2.2.2; omega⟩ ⟨hP1, by simp; omega, by simp; omega⟩ (by omega) ⟨by omega, fun q g1 g2 => (c3 q (by omega)).trans (hS.2.1 q g1 g2), hS.2.2⟩ hLR (hRt.le (by omega) (by omega))) |> W.eq ?_
      show _ = F0 m (pc + 3) lsr (.ref (ad sh.length) :: st.map (am_cv ad))
      rw [had _ hl1000, ← hHs]
    case anewarray j =>
      split at h
      · rename_i n0 r
        obtain ⟨h1, h2, h3, h5, h6, h⟩ := h
        have hle : s.heap.size ≤ H.size := hS.1
        have fin : ∀ (t0 : Nat) (cT : ClassId), a = t0 → (∀ sh2 hi2 k n9 z9, sh2[k]? = some (t0, n9, z9) → (am_ws ad cs sh2 hi2)[k]? = some (ad k, .inl (cT, n9, .inr (.inr (.inr (.inr (fun j => am_ro ad (z9.getD j 0)))))))) →
            W p l e R s m args below meth c (H.push { cls := cT, slots := Array.replicate n0.toNatClampNeg .null, vm := .none }) locs (cells + 1) (slots + n0.toNatClampNeg) Qr (F0 m (pc + 3) lsr (.ref H.size :: r.map (am_cv ad))) := by
          intro t0 cT hat hrow
          subst hat
          generalize hH1 : H.push ({ cls := cT, slots := Array.replicate n0.toNatClampNeg .null, vm := .none } : Cell) = H1
          have c2 : H1.size = H.size + 1 := by rw [← hH1, Array.size_push]
          have c1 : H1[H.size]? = some (arrV cT n0.toNatClampNeg (fun _ => .null)) := by rw [← hH1, Array.getElem?_push_size, ← arrV_new]
          have c3 : ∀ q : Nat, q < H.size → H1[q]? = H[q]? := fun q hq => by rw [← hH1, Array.getElem?_push, if_neg (Nat.ne_of_lt hq)]
          have hP1 : va_P D am_cl (am_ws ad cs (sh ++ [(a, n0.toNatClampNeg, List.replicate n0.toNatClampNeg 0)]) hi) H1 := by
            have hsh : (sh ++ [(a, n0.toNatClampNeg, List.replicate n0.toNatClampNeg 0)])[sh.length]? = some (a, n0.toNatClampNeg, List.replicate n0.toNatClampNeg 0) := by simp
            have hr := hrow _ hi _ _ _ hsh
            rw [am_ws_push, List.getElem?_append_right (by rw [am_ws_len]; omega), am_ws_len, Nat.sub_self] at hr
            rw [am_ws_push, show (ad sh.length, am_ce ad cs (sh ++ [(a, n0.toNatClampNeg, List.replicate n0.toNatClampNeg 0)]) hi sh.length) = _ from Option.some.inj hr]
            refine (hP.kept (fun k q hk => c3 q.1 (hP k q hk).lt)).app (fun k q hk => ?_)
            have hz0 : k < 1 := (List.getElem?_eq_some_iff.mp hk).1
            rw [show k = 0 by omega] at hk
            cases hk
            show H1[ad sh.length]? = some (vp_cell _ _)
            rw [had _ hl1000, ← hHs, c1, vp_cell_q]
            congr 2
            funext j9
            have e4 : (List.replicate n0.toNatClampNeg 0).getD j9 0 = 0 := by
              rw [List.getD_eq_getElem?_getD]
              by_cases hj9 : j9 < n0.toNatClampNeg
              · simp [hj9]
              · simp [hj9]
            rw [e4]
            rfl
          refine (h p e R s m args below meth c H1 locs (cells + 1) (slots + n0.toNatClampNeg) Qr lsr hCC ⟨hRm.1, hRm.2.1, by have := hRm.2.2.1; omega, by have := hRm.2.2.2; omega⟩ ⟨hP1, by simp; omega, by simp; omega⟩ (by omega) ⟨by omega, fun q g1 g2 => (c3 q (by omega)).trans (hS.2.1 q g1 g2), hS.2.2⟩ hLR (hRt.le (by omega) (by omega))) |> W.eq ?_
          show F0 m (pc + 3) lsr (.ref H.size :: r.map (am_cv ad)) = F0 m (pc + 3) lsr (.ref (ad sh.length) :: r.map (am_cv ad))
          rw [had _ hl1000, ← hHs]
        have hok2 : (a = 21 ∧ am_hasC (am_ow M) j 3 = true) ∨ (a = 22 ∧ am_hasC (am_ow M) j 5 = true) := by simpa [am_okI] using hok
        rcases hok2 with ⟨ha, hj⟩ | ⟨ha, hj⟩
        · obtain ⟨f1, f2⟩ := am_hasC_ok hj
          refine W.anew hx hb hown (hts _ f1) (va_AO.use hW0.2.2.2.2.2.1) rfl hdec rfl h1 (by omega) (by have := hRm.2.2.1; omega) (by have := hRm.2.2.2; omega) fun cA kA comp d1 d2 d3 d4 => ?_
          obtain ⟨kA2, comp2, k1, k2, k3, k4⟩ := (hK.2 1 _ rfl).2
          have hcA : cA = cs.2.1 := Option.some.inj (d1.symm.trans k4)
          subst hcA
          exact fin 21 cs.2.1 ha (fun sh2 hi2 k n9 z9 h9 => am_ws_ra h9)
        · obtain ⟨f1, f2⟩ := am_hasC_ok hj
          refine W.anew hx hb hown (hts _ f1) (va_AO.use hW0.2.2.2.2.2.2.1) rfl hdec rfl h1 (by omega) (by have := hRm.2.2.1; omega) (by have := hRm.2.2.2; omega) fun cA kA comp d1 d2 d3 d4 => ?_
          obtain ⟨kA2, comp2, k1, k2, k3, k4⟩ := (hK.2 2 _ rfl).2
          have hcA : cA = cs.2.2 := Option.some.inj (d1.symm.trans k4)
          subst hcA
          exact fin 22 cs.2.2 ha (fun sh2 hi2 k n9 z9 h9 => am_ws_rb h9)
      · exact h.elim
    case ireturn =>
      split at h
      · exact hRt.1 H locs cells slots lsr pc _ sh hi _ a b c' k sw hins h.2.1 hR hZ hS (by rw [h.1]; rfl) (by omega) h.2.2
      · exact h.elim
    case return_ =>
      split at h
      · exact hRt.2 H locs cells slots lsr pc sh hi _ a b c' k sw hins hR hZ hS (by rw [h.1]; rfl) (by omega) h.2
      · exact h.elim
    case invokevirtual j =>
      obtain ⟨hbl, ⟨o, ho, z, hz, hz10, hzl⟩, hcall⟩ := h
      have hj : (((c' % 16 = 0 ∧ am_hasM (am_ow M) j a 0 = true) ∧ b = am_np a + 1) ∧ c' / 256 = am_ml a) ∧ c' / 16 % 16 = am_ow a := by simpa [am_okI] using hok
      obtain ⟨⟨⟨⟨j1, j2⟩, j3⟩, j4⟩, j5⟩ := hj
      obtain ⟨ui, hcw, -⟩ := am_hasM_ok j2
      unfold am_cw1 at hcw
      simp at hcw
      obtain ⟨⟨⟨w1, w2⟩, w3⟩, w0⟩ := hcw
      obtain ⟨y1, y2, y3, y4, y5, y6, y7, y8, y9⟩ := am_mok_code w3 w2
      obtain ⟨w4, w5⟩ := y7 w0
      rw [j4] at hcall
      rw [j5] at hz hz10 hzl
      cases has : (st.take b).reverse with
      | nil => rw [has] at ho; cases ho
      | cons o1 as1 =>
      rw [has] at ho hcall
      have ho1 : o1 = .ref o := Option.some.inj ho
      subst ho1
      have hlen : as1.length = am_np a := by
        have e1 : (st.take b).reverse.length = b := by simp [hbl]
        rw [has] at e1
        simp only [List.length_cons] at e1
        omega
      refine am_callok hCC hRm hR hZ hS hLR hRt w3 w2 hcall (fun d' m1 n1 Post q1 q2 q3 q4 hmet => ?_)
      obtain ⟨T, ty, t1, -⟩ := am_cls_ok hz10
      refine va_runV (C := am_cn (am_ow a)) (As := as1.map (am_cv ad)) (n := am_np a) ⟨hx, hb, hml, hown, hts⟩ hmet (cwV (am_np a) hts (fun w hw => ?_) rfl rfl rfl ⟨y3, y5⟩ ⟨by show d' + 1 ≤ _; have := hRm.1; omega, by show 8 + (am_ml a + 11) + 40 * d' ≤ _; have := hRm.2.1; omega⟩) ⟨am_frameBlind, va_recv hK hP t1 (am_ws_ob hz hz10), fun U hU hWU => ⟨rfl, hW0.go hWU hB0 (fun q g1 g2 => by rw [hU]; exact hS.2.1 q g1 g2), by rw [hU]; exact hR⟩⟩ rfl (by simpa using hlen) (hLR.size) ?_ (lv_room (by rw [am_cats_cv]; exact q4)) hdec ⟨q2, q3⟩
      · rcases List.mem_append.mp hw with hw | hw
        · simp only [List.mem_cons, List.mem_nil_iff, or_false] at hw
          rcases hw with rfl | rfl | rfl | rfl
          · exact ⟨am_wd_mem w1, am_U_good (am_wd_mem w1)⟩
          · exact ⟨w4, am_U_good w4⟩
          · exact ⟨w5, am_U_good w5⟩
          · rw [← y3]; exact ⟨y2, am_U_good y2⟩
        · exact am_goodIn w3 w2 w hw
      · rw [← List.map_reverse]
        show st.map (am_cv ad) = _
        conv => lhs; rw [am_take has]
        simp [am_cv]
    case invokestatic j =>
      by_cases hc8 : c' = 8
      · rw [if_pos hc8] at h
        subst hc8
        have hj : am_hasM (am_ow M) j 0 8 = true := by simpa [am_okI] using hok
        obtain ⟨ui, hcw, -⟩ := am_hasM_ok hj
        unfold am_cw1 at hcw
        simp at hcw
        have w8 := am_w8_ok
        simp only [Bool.and_eq_true] at w8
        split at h
        · rename_i n0 dp o sp q0 r
          obtain ⟨a0, a1, z0, z1, g1, g2, g3, g4, g5, g6, g7, g8, g9, h⟩ := h
          refine va_copyi hx hb (by rw [hml]; exact hLR.size.symm) hown (hts _ (am_wd_mem hcw)) (hts _ (am_wd_mem w8.1.1)) (hts _ (am_wd_mem w8.1.2)) (hts _ (am_wd_mem (of_decide_eq_true w8.2))) hK hP hDD (am_S1 hS) q0 o 0 0 (am_ws_ia g1) (am_ws_ia g2) (ty := .int) rfl rfl rfl g3 g4 g5 g6 g7 (fun _ _ => rfl) (by have := hRm.1; omega) ?_ hdec (fun H1 locs1 hP1 _ hS1 => ?_)
          · have e1 : nativeFrameWords "java/lang/System" "arraycopy" 5 ≤ 20 := by decide +kernel
            have e2 := hRm.2.1
            rw [am_cats_cv]
            omega
          · have hws : (am_ws ad cs sh hi).set o (ad o, .inl (cs.1, a1, .inl (va_cpy (hi q0) (hi o) sp.toNatClampNeg dp.toNatClampNeg n0.toNatClampNeg))) = am_ws ad cs sh (am_ur hi o (va_cpy (hi q0) (hi o) sp.toNatClampNeg dp.toNatClampNeg n0.toNatClampNeg)) := by
              have e1 := am_ws_set (ad := ad) (cs := cs) (sh' := sh) (hi' := am_ur hi o (va_cpy (hi q0) (hi o) sp.toNatClampNeg dp.toNatClampNeg n0.toNatClampNeg)) (hi := hi) rfl (am_lt g2) (fun j9 hj => ⟨rfl, am_ur_off hi _ hj⟩)
              rw [← e1]
              congr 2
              have e2 := am_ws_ia (ad := ad) (cs := cs) (hi := am_ur hi o (va_cpy (hi q0) (hi o) sp.toNatClampNeg dp.toNatClampNeg n0.toNatClampNeg)) g2
              rw [am_ws_at (am_lt g2), am_ur_row] at e2
              exact (congrArg Prod.snd (Option.some.inj e2)).symm
            rw [hws] at hP1
            refine am_up fun hup => ?_
            have hlo := hS1.1
            exact h p e R s m args below meth c H1 locs1 cells slots Qr lsr hCC hRm ⟨hP1, hl1000, by omega⟩ (by omega) (am_S2 hS hS1) hLR hRt
        · exact h.elim
      rw [if_neg hc8] at h
      by_cases hc10 : c' = 10
      · rw [if_pos hc10] at h
        subst hc10
        have hj : am_hasM (am_ow M) j 0 10 = true := by simpa [am_okI] using hok
        obtain ⟨ui, hcw, -⟩ := am_hasM_ok hj
        unfold am_cw1 at hcw
        simp at hcw
        have w8 := am_wm_max
        simp only [Bool.and_eq_true] at w8
        split at h
        · have e2 := hRm.2.1
          have e3 := h.1
          have e4 := h.2.1
          exact va_mmax hx hb (by rw [hml]; exact hLR.size.symm) hown (hts _ (am_wd_mem hcw)) (hts _ (am_wd_mem w8.1.1)) (hts _ (am_wd_mem w8.2)) (hts _ (am_wd_mem w8.1.2)) (by have := hRm.1; omega) (by rw [am_cats_cv]; omega) (by have := hRm.2.2.1; omega) (by have := hRm.2.2.2; omega) hdec (h.2.2 p e R s m args below meth c H locs cells slots Qr lsr hCC hRm hR hZ hS hLR hRt)
        · exact h.elim
      rw [if_neg hc10] at h
      by_cases hc11 : c' = 11
      · rw [if_pos hc11] at h
        subst hc11
        have hj : am_hasM (am_ow M) j 0 11 = true := by simpa [am_okI] using hok
        obtain ⟨ui, hcw, -⟩ := am_hasM_ok hj
        unfold am_cw1 at hcw
        simp at hcw
        have w8 := am_wm_min
        simp only [Bool.and_eq_true] at w8
        split at h
        · have e2 := hRm.2.1
          have e3 := h.1
          have e4 := h.2.1
          exact va_mmin hx hb (by rw [hml]; exact hLR.size.symm) hown (hts _ (am_wd_mem hcw)) (hts _ (am_wd_mem w8.1.1)) (hts _ (am_wd_mem w8.2)) (hts _ (am_wd_mem w8.1.2)) (by have := hRm.1; omega) (by rw [am_cats_cv]; omega) (by have := hRm.2.2.1; omega) (by have := hRm.2.2.2; omega) hdec (h.2.2 p e R s m args below meth c H locs cells slots Qr lsr hCC hRm hR hZ hS hLR hRt)
        · exact h.elim
      rw [if_neg hc11] at h
      by_cases hc12 : c' = 12
      · rw [if_pos hc12] at h
        subst hc12
        have hj : am_hasM (am_ow M) j 0 12 = true := by simpa [am_okI] using hok
        obtain ⟨ui, hcw, -⟩ := am_hasM_ok hj
        unfold am_cw1 at hcw
        simp at hcw
        have w8 := am_wm_abs
        simp only [Bool.and_eq_true] at w8
        split at h
        · have e2 := hRm.2.1
          have e3 := h.1
          have e4 := h.2.1
          exact va_mabs hx hb (by rw [hml]; exact hLR.size.symm) hown (hts _ (am_wd_mem hcw)) (hts _ (am_wd_mem w8.1.1)) (hts _ (am_wd_mem w8.2)) (hts _ (am_wd_mem w8.1.2)) (by have := hRm.1; omega) (by rw [am_cats_cv]; omega) (by have := hRm.2.2.1; omega) (by have := hRm.2.2.2; omega) hdec (h.2.2 p e R s m args below meth c H locs cells slots Qr lsr hCC hRm hR hZ hS hLR hRt)
        · exact h.elim
      rw [if_neg hc12] at h
      obtain ⟨hbl, hcall⟩ := h
      have hj : (((c' % 16 = 1 ∨ c' % 16 = 2) ∧ am_hasM (am_ow M) j a (c' % 16) = true) ∧ b = am_np a) ∧ c' / 256 = am_ml a := by
        simpa [am_okI, hc8, hc10, hc11, hc12] using hok
      obtain ⟨⟨⟨j1, j2⟩, j3⟩, j4⟩ := hj
      obtain ⟨ui, hcw, hnm⟩ := am_hasM_ok j2
      have hlen : (st.take b).reverse.length = am_np a := by
        rw [← j3]
        simp [hbl]
      have hst : st.map (am_cv ad) = (((st.take b).reverse.map (am_cv ad)).reverse ++ (st.drop b).map (am_cv ad)) := by
        rw [← List.map_reverse, List.reverse_reverse, ← List.map_append, List.take_append_drop]
      rw [j4] at hcall
      rcases j1 with j1 | j1
      · rw [j1] at hcw
        unfold am_cw1 at hcw
        simp at hcw
        obtain ⟨⟨⟨w1, w2⟩, w3⟩, w0⟩ := hcw
        obtain ⟨y1, y2, y3, y4, y5, y6, y7, y8, y9⟩ := am_mok_code w3 w2
        have w4 := y9 w0
        refine am_callok hCC hRm hR hZ hS hLR hRt w3 w2 hcall (fun d' m1 n1 Post q1 q2 q3 q4 hmet => ?_)
        refine va_runS (As := (st.take b).reverse.map (am_cv ad)) (n := am_np a) ⟨hx, hb, hml, hown, hts⟩ hmet (va_cwS (am_np a) hts (fun w hw => ?_) rfl rfl rfl y5 ⟨by show d' + 1 ≤ _; have := hRm.1; omega, by show 8 + (am_ml a + 11) + 40 * d' ≤ _; have := hRm.2.1; omega⟩) ⟨am_frameBlind, fun U hU hWU => ⟨rfl, hW0.go hWU hB0 (fun q g1 g2 => by rw [hU]; exact hS.2.1 q g1 g2), by rw [hU]; exact hR⟩⟩ rfl (by rw [List.length_map]; exact hlen) (hLR.size) hst (lv_room (by rw [am_cats_cv]; exact q4)) hdec ⟨q2, q3⟩
        rcases List.mem_append.mp hw with hw | hw
        · simp only [List.mem_cons, List.mem_nil_iff, or_false] at hw
          rcases hw with rfl | rfl | rfl
          · exact ⟨am_wd_mem w1, am_U_good (am_wd_mem w1)⟩
          · exact ⟨w4, am_U_good w4⟩
          · exact ⟨y2, am_U_good y2⟩
        · exact am_goodIn w3 w2 w hw
      · have hnest := hnm j1
        rw [j1] at hcw hnest
        unfold am_cw1 at hcw
        simp at hcw
        obtain ⟨⟨⟨w1, w2⟩, w3⟩, w0⟩ := hcw
        obtain ⟨y1, y2, y3, y4, y5, y6, y7, y8, y9⟩ := am_mok_code w3 w2
        have w4 := y9 w0
        have hN := hW0.2.2.2.2.2.2.2.2 _ hnest
        refine am_callok hCC hRm hR hZ hS hLR hRt w3 w2 hcall (fun d' m1 n1 Post q1 q2 q3 q4 hmet => ?_)
        exact va_runSN (As := (st.take b).reverse.map (am_cv ad)) (n := am_np a) ⟨hx, hb, hml, hown, hts⟩ hmet ⟨va_cnB (am_np a) hts (am_goodIn w3 w2) rfl rfl rfl hN (hts _ y2) y5 ⟨by show d' + 1 ≤ _; have := hRm.1; omega, by show 8 + (am_ml a + 11) + 40 * d' ≤ _; have := hRm.2.1; omega⟩, hts _ w4, trivial⟩ ⟨am_frameBlind, fun U hU hWU => ⟨rfl, hW0.go hWU hB0 (fun q g1 g2 => by rw [hU]; exact hS.2.1 q g1 g2), by rw [hU]; exact hR⟩⟩ rfl (by rw [List.length_map]; exact hlen) (hLR.size) hst (lv_room (by rw [am_cats_cv]; exact q4)) hdec ⟨q2, q3⟩
    case invokespecial j =>
      by_cases hc9 : c' = 9
      · rw [if_pos hc9] at h
        subst hc9
        have hj : am_hasM (am_ow M) j 0 9 = true := by simpa [am_okI] using hok
        obtain ⟨ui, hcw, -⟩ := am_hasM_ok hj
        unfold am_cw1 at hcw
        simp at hcw
        have w8 := am_w9_ok
        simp only [Bool.and_eq_true] at w8
        split at h
        · have e2 := hRm.2.1
          have e3 := h.1
          have e4 := h.2.1
          exact W.objInit hx hb hown (hts _ (am_wd_mem hcw)) (hts _ (am_wd_mem w8.1)) (hts _ (am_wd_mem (of_decide_eq_true w8.2))) rfl (by rw [hml]; exact hLR.size) rfl hdec (by have := hRm.1; omega) (by show 2 * 0 + ((List.map (am_cv ad) _).map fun v => v.category).sum + 12 ≤ _; rw [am_cats_cv]; omega) (h.2.2 p e R s m args below meth c H locs cells slots Qr lsr hCC hRm hR hZ hS hLR hRt)
        · exact h.elim
      · rw [if_neg hc9] at h
        obtain ⟨hbl, ⟨o, ho⟩, hcall⟩ := h
        have hj : ((c' % 16 = 3 ∧ am_hasM (am_ow M) j a 3 = true) ∧ b = am_np a + 1) ∧ c' / 256 = am_ml a := by simpa [am_okI, hc9] using hok
        obtain ⟨⟨⟨j1, j2⟩, j3⟩, j4⟩ := hj
        obtain ⟨ui, hcw, -⟩ := am_hasM_ok j2
        unfold am_cw1 at hcw
        simp at hcw
        obtain ⟨⟨⟨w1, w2⟩, w3⟩, w0⟩ := hcw
        obtain ⟨y1, y2, y3, y4, y5, y6, y7, y8, y9⟩ := am_mok_code w3 w2
        obtain ⟨w4, w5, w6⟩ := y8 w0
        rw [j4] at hcall
        cases has : (st.take b).reverse with
        | nil => rw [has] at ho; cases ho
        | cons o1 as1 =>
        rw [has] at ho hcall
        have ho1 : o1 = .ref o := Option.some.inj ho
        subst ho1
        have hlen : as1.length = am_np a := by
          have e1 : (st.take b).reverse.length = b := by simp [hbl]
          rw [has] at e1
          simp only [List.length_cons] at e1
          omega
        refine am_callok hCC hRm hR hZ hS hLR hRt w3 w2 hcall (fun d' m1 n1 Post q1 q2 q3 q4 hmet => ?_)
        have hwsM : am_wsM a = Cond.code (am_ym a) (am_by a) (am_ml a) none :: am_U := by unfold am_wsM; rw [w6]
        have hinit : (am_ym a).name = "<init>" := by
          unfold am_in at w5
          exact beq_iff_eq.mp w5
        refine va_runI (As := as1.map (am_cv ad)) (n := am_np a) ⟨hx, hb, hml, hown, hts⟩ hmet (cwI (am_np a) hts (am_goodIn w3 w2) hwsM rfl rfl (hts _ y2) (hts _ (am_wd_mem w1)) (hts _ w4) hinit y5 ⟨by show d' + 1 ≤ _; have := hRm.1; omega, by show 8 + (am_ml a + 11) + 40 * d' ≤ _; have := hRm.2.1; omega⟩) ⟨am_frameBlind, fun U hU hWU => ⟨rfl, hW0.go hWU hB0 (fun q g1 g2 => by rw [hU]; exact hS.2.1 q g1 g2), by rw [hU]; exact hR⟩⟩ rfl (by simpa using hlen) (hLR.size) ?_ (lv_room (by rw [am_cats_cv]; exact q4)) hdec ⟨q2, q3⟩
        rw [← List.map_reverse]
        show st.map (am_cv ad) = _
        conv => lhs; rw [am_take has]
        simp [am_cv]
    all_goals (generalize hb1 : am_b _ a k ls st = o1 at h; dsimp only [am_b] at hb1; subst hb1; exact h.elim)
