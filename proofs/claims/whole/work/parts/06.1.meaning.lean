/-! what holds around a run of the abstract machine, and what its predicate means in the machine -/
def am_nst : List (Nat × Nat × Nat × Nat × Nat) := am_ls.filter fun q => q.2.2.2.1 == 1
def am_nmt : List (Nat × Nat × Nat × Nat × Nat) := am_lm.filter fun q => q.2.2.2.1 == 2
def am_NW (U : State) : Prop := (∀ q ∈ am_nst, ∀ n ds, am_sn[q.2.2.1 - 1001]? = some (n, ds) → va_Nw (.fieldLinkNest (am_cn q.1) q.2.1 "WrongCoats" n ds "WrongCoats") U) ∧ ∀ q ∈ am_nmt, va_Nw (.methodLinkNest (am_cn q.1) q.2.1 (am_ym q.2.2.1) "WrongCoats") U
theorem am_NW.warm {s U : State} (hW : s.WarmedH U.vm) (h : am_NW s) : am_NW U :=
  ⟨fun q hq n ds hn => va_Nw.warmF hW (h.1 q hq n ds hn), fun q hq => va_Nw.warmM hW (h.2 q hq)⟩
/-- the parts that nobody writes, seen at a state -/
def am_W0 (L : Nat) (xs : Nat → Int32) (ad : Nat → Nat) (B0 : Nat) (cs : am_CS) (D : va_G) (U : State) (H : Heap) : Prop :=
  va_K D am_cl (am_tl cs) U ∧ (va_X (ad 1000) L xs U H ∧ ad 1000 < B0 ∧ ∀ k, k < 1000 → ad k = B0 + k) ∧
  (va_Z "WrongCoats" "ABOVE" "[I" (.ref (ad 1001)) (fun q => B0 ≤ q) U H ∧ va_T .int (ad 1001) 7 (fun j => .int (am_tab1 j)) (fun q => B0 ≤ q) U H) ∧
  (va_Z "WrongCoats" "BODIES" "[I" (.ref (ad 1002)) (fun q => B0 ≤ q) U H ∧ va_T .int (ad 1002) 28 (fun j => .int (am_tab2 j)) (fun q => B0 ≤ q) U H) ∧
  (va_Z "WrongCoats" "NAME_SIGNS" "[C" (.ref (ad 1003)) (fun q => B0 ≤ q) U H ∧ va_T .char (ad 1003) 6 (fun j => .int (am_tab3 j)) (fun q => B0 ≤ q) U H) ∧
  va_AO "WrongCoats$Law" U ∧ va_AO "WrongCoats$Sheet" U ∧ am_NW U
/-- the parts at a later state of the same run, or at a callee's start -/
theorem am_W0.go {L : Nat} {xs : Nat → Int32} {ad : Nat → Nat} {B0 : Nat} {cs : am_CS} {D : va_G} {s U : State} {H H1 : Heap} (h : am_W0 L xs ad B0 cs D s H) (hW : s.WarmedH U.vm) (hB : B0 ≤ H.size) (hq : ∀ a : Nat, a < H.size → ¬ B0 ≤ a → H1[a]? = H[a]?) : am_W0 L xs ad B0 cs D U H1 := by
  obtain ⟨hK, ⟨hX, hb, had⟩, h1, h2, h3, h4, h5, h6⟩ := h
  have hv := hW.alike
  exact ⟨hK.moved hv, ⟨(hX.kept (hq _ (by omega) (by omega))).moved hv, hb, had⟩, ⟨(h1.1.kept hq).moved hv, (h1.2.kept hq).moved hv⟩, ⟨(h2.1.kept hq).moved hv, (h2.2.kept hq).moved hv⟩, ⟨(h3.1.kept hq).moved hv, (h3.2.kept hq).moved hv⟩, h4.moved hv, h5.moved hv, h6.warm hW⟩
theorem am_W0.vm {L : Nat} {xs : Nat → Int32} {ad : Nat → Nat} {B0 : Nat} {cs : am_CS} {D : va_G} {s U : State} {H : Heap} (h : am_W0 L xs ad B0 cs D s H) (hv : s.vm = U.vm) : am_W0 L xs ad B0 cs D U H := by
  obtain ⟨hK, ⟨hX, hb, had⟩, h1, h2, h3, h4, h5, h6⟩ := h
  have ha : s.vm.Alike U.vm := by rw [hv]; exact Vm.Alike.refl U.vm
  exact ⟨hK.moved ha, ⟨hX.moved ha, hb, had⟩, ⟨h1.1.moved ha, h1.2.moved ha⟩, ⟨h2.1.moved ha, h2.2.moved ha⟩, ⟨h3.1.moved ha, h3.2.moved ha⟩, h4.moved ha, h5.moved ha, ⟨fun q hq n ds hn => va_Nw.same rfl hv (h6.1 q hq n ds hn), fun q hq => va_Nw.same rfl hv (h6.2 q hq)⟩⟩
def am_R (ad : Nat → Nat) (B0 : Nat) (cs : am_CS) (D : va_G) (sh : am_SH) (hi : am_HI) (H : Heap) : Prop := va_P D am_cl (am_ws ad cs sh hi) H ∧ sh.length < 1000 ∧ H.size = B0 + sh.length
theorem am_ws_D {ad : Nat → Nat} {B0 : Nat} {cs : am_CS} {sh : am_SH} {hi : am_HI} (had : ∀ k, k < 1000 → ad k = B0 + k) (hl : sh.length < 1000) : va_D (fun q => B0 ≤ q) (am_ws ad cs sh hi) := by
  refine ⟨fun i j p q h1 h2 h3 => ?_, fun k q h => ?_⟩
  · obtain ⟨l1, rfl⟩ := am_ws_of h1
    obtain ⟨l2, rfl⟩ := am_ws_of h2
    dsimp only at h3
    rw [had i (by omega), had j (by omega)] at h3
    omega
  · obtain ⟨l1, rfl⟩ := am_ws_of h
    dsimp only
    rw [had k (by omega)]
    omega
/-- what stays through a method's run -/
def am_C (L : Nat) (xs : Nat → Int32) (ad : Nat → Nat) (B0 : Nat) (cs : am_CS) (D : va_G) (p : Program) (s : State) (m : MethodId) (args : Array Value) (meth : Method) (c : Code) (M : Nat) : Prop :=
  p.tables.exec = Jvm.exec ∧ c.code = am_by M ∧ c.maxLocals = am_ml M ∧ s.vm.findClass (am_cn (am_ow M)) = some m.cls ∧ (∀ w ∈ am_U, w.before args s = true) ∧ (am_in M = true → meth.name = "<init>") ∧ am_W0 L xs ad B0 cs D s s.heap ∧ B0 ≤ s.heap.size
def am_rm (d mc ms : Nat) : Room := { frames := d, cells := mc, slots := ms, locals := 40 * d }
def am_Rt (ad : Nat → Nat) (B0 : Nat) (cs : am_CS) (D : va_G) (p : Program) (l : Launch) (e : Env) (R : Room) (s : State) (m : MethodId) (args : Array Value) (below : List Frame) (meth : Method) (c : Code) (Qr : State → Prop) (M cb sb : Nat) (Q : am_Q) : Prop :=
  (∀ (H : Heap) (locs : List Loc) (cells slots : Nat) (lsr : Array Slot) (pc : Nat) (v : Int32) (sh : am_SH) (hi : am_HI) (nx a b c' : Nat) (k : Int32) (sw : List (Int × Nat)), am_ins M pc = some (.ireturn, nx, a, b, c', k, sw) → (b = 1 → v = 0 ∨ v = 1) → am_R ad B0 cs D sh hi H → H.size = s.heap.size + cells → va_S (fun q => B0 ≤ q) s.heap H locs → cells = cb → slots ≤ sb → Q (some (.int v)) sh hi →
    W p l e R s m args below meth c H locs cells slots Qr (F0 m pc lsr [.int v])) ∧
  (∀ (H : Heap) (locs : List Loc) (cells slots : Nat) (lsr : Array Slot) (pc : Nat) (sh : am_SH) (hi : am_HI) (nx a b c' : Nat) (k : Int32) (sw : List (Int × Nat)), am_ins M pc = some (.return_, nx, a, b, c', k, sw) → am_R ad B0 cs D sh hi H → H.size = s.heap.size + cells → va_S (fun q => B0 ≤ q) s.heap H locs → cells = cb → slots ≤ sb → Q none sh hi →
    W p l e R s m args below meth c H locs cells slots Qr (F0 m pc lsr []))
theorem am_Rt.le {ad : Nat → Nat} {B0 : Nat} {cs : am_CS} {D : va_G} {p : Program} {l : Launch} {e : Env} {R : Room} {s : State} {m : MethodId} {args : Array Value} {below : List Frame} {meth : Method} {c : Code} {Qr : State → Prop} {M cb sb cb' sb' : Nat} {Q : am_Q}
    (h : am_Rt ad B0 cs D p l e R s m args below meth c Qr M cb sb Q) (h1 : cb' = cb) (h2 : sb' ≤ sb) : am_Rt ad B0 cs D p l e R s m args below meth c Qr M cb' sb' Q :=
  ⟨fun H locs cells slots lsr pc v sh hi nx a b c' k sw g1 g2 g3 g0 g4 g5 g6 g7 => h.1 H locs cells slots lsr pc v sh hi nx a b c' k sw g1 g2 g3 g0 g4 (g5.trans h1) (Nat.le_trans g6 h2) g7,
   fun H locs cells slots lsr pc sh hi nx a b c' k sw g1 g3 g0 g4 g5 g6 g7 => h.2 H locs cells slots lsr pc sh hi nx a b c' k sw g1 g3 g0 g4 (g5.trans h1) (Nat.le_trans g6 h2) g7⟩
/-- the meaning of the abstract machine's predicate -/
def am_PS (l : Launch) (L : Nat) (xs : Nat → Int32) (ad : Nat → Nat) (B0 : Nat) (cs : am_CS) (D : va_G) : am_P := fun d mc ms M pc ls st sh hi Q =>
  ∀ (p : Program) (e : Env) (R : Room) (s : State) (m : MethodId) (args : Array Value) (below : List Frame) (meth : Method) (c : Code) (H : Heap) (locs : List Loc) (cells slots : Nat) (Qr : State → Prop) (lsr : Array Slot),
    am_C L xs ad B0 cs D p s m args meth c M → (d ≤ R.frames ∧ 40 * d ≤ R.locals ∧ cells + mc ≤ R.cells ∧ slots + ms ≤ R.slots) → am_R ad B0 cs D sh hi H → H.size = s.heap.size + cells → va_S (fun q => B0 ≤ q) s.heap H locs → am_LR ad lsr (am_ml M) ls →
    am_Rt ad B0 cs D p l e R s m args below meth c Qr M (cells + mc) (slots + ms) Q → W p l e R s m args below meth c H locs cells slots Qr (F0 m pc lsr (st.map (am_cv ad)))
def am_B (L : Nat) (xs : Nat → Int32) (ad : Nat → Nat) (B0 : Nat) (cs : am_CS) (D : va_G) (sh : am_SH) (hi : am_HI) (U : State) : Prop := am_W0 L xs ad B0 cs D U U.heap ∧ am_R ad B0 cs D sh hi U.heap
def am_Qc (ad : Nat → Nat) (B0 : Nat) (cs : am_CS) (D : va_G) (n0 : Nat) (rt : Option FieldType) (Post : am_Q) : Array Value → State → Outcome → State → Prop := match rt with
  | none => va_Qv (S := am_SH × am_HI) (fun u => Post none u.1 u.2) (fun u t => am_R ad B0 cs D u.1 u.2 t.heap ∧ u.1.length = n0) (fun q => B0 ≤ q)
  | some _ => va_Qi (S := am_SH × am_HI) (fun r u => Post (some (.int r)) u.1 u.2) (fun u t => am_R ad B0 cs D u.1 u.2 t.heap ∧ u.1.length = n0) (fun q => B0 ≤ q)
def am_wsM (M : Nat) : List Cond := Cond.code (am_ym M) (am_by M) (am_ml M) (am_rt M) :: am_U
theorem am_mok_code {M : Nat} (h1 : 1 ≤ M) (h2 : M < 224) : Cond.code (am_ym M) (am_by M) (am_ml M) (am_rt M) ∈ am_U ∧ Cond.initialized (am_ym M).cls ∈ am_U ∧ (am_ym M).cls = am_cn (am_ow M) ∧ plainName (am_ym M).cls = true ∧
    ((am_ym M).cls ≠ "java/lang/invoke/MethodHandle" ∧ (am_ym M).cls ≠ "java/lang/invoke/VarHandle" ∧ (parseMethodDescriptor (am_ym M).desc).map (fun d => d.parameters.length) = some (am_np M)) ∧ am_ml M ≤ 20 ∧
    (am_mkd M = 0 → Cond.instanceMethod (am_ym M) ∈ am_U ∧ Cond.selects (am_cn (am_ow M)) (am_ym M) (am_ym M) ∈ am_U) ∧ (am_mkd M = 3 → Cond.instanceMethod (am_ym M) ∈ am_U ∧ am_in M = true ∧ am_rt M = none) ∧ (am_mkd M = 1 → Cond.static (am_ym M) ∈ am_U) := by
  have h := am_mok_ok h1 h2
  unfold am_mok at h
  rw [Bool.and_eq_true] at h
  obtain ⟨h, g7⟩ := h
  simp only [Bool.and_eq_true, decide_eq_true_eq] at h
  obtain ⟨⟨⟨⟨⟨g1, g2⟩, g3⟩, g4⟩, g5⟩, g6⟩ := h
  refine ⟨am_wd_mem g1, am_wd_mem g2, g3, g4, g5, g6, fun e => ?_, fun e => ?_, fun e => ?_⟩
  · rw [e] at g7
    simp only [if_pos, Bool.and_eq_true] at g7
    exact ⟨am_wd_mem g7.1, am_wd_mem g7.2⟩
  · rw [e] at g7
    simp [Bool.and_eq_true] at g7
    exact ⟨am_wd_mem g7.1.1, g7.1.2, g7.2⟩
  · rw [e] at g7
    simp at g7
    exact am_wd_mem g7
theorem am_goodIn {M : Nat} (h1 : 1 ≤ M) (h2 : M < 224) : GoodIn am_U (am_wsM M) := by
  intro w hw
  rcases List.mem_cons.mp hw with rfl | hw
  · exact ⟨(am_mok_code h1 h2).1, am_U_good (am_mok_code h1 h2).1⟩
  · exact ⟨hw, am_U_good hw⟩
set_option maxHeartbeats 4000000 in
/-- a callee's contract out of the predicate at its entry -/
theorem am_met {l : Launch} {L : Nat} {xs : Nat → Int32} {ad : Nat → Nat} {B0 : Nat} {cs : am_CS} {D : va_G} {M d mc ms : Nat} {as : List Value} {sh : am_SH} {hi : am_HI} {Post : am_Q} (h1 : 1 ≤ M) (h2 : M < 224)
    (hlen : (am_en (am_ml M) as).length = am_ml M) (h : am_PS l L xs ad B0 cs D d mc ms M 0 (am_en (am_ml M) as) [] sh hi Post) :
    Met l (am_ym M) (am_wsM M) (am_rm d mc ms) (va_Pc (as.map (am_cv ad)) (am_B L xs ad B0 cs D sh hi)) (am_Qc ad B0 cs D (sh.length + mc) (am_rt M) Post) mc ms (fun q => B0 ≤ q) := by
  obtain ⟨g1, g2, g3, g4, g5, g6⟩ := am_mok_code h1 h2
  refine Met.ofW (cc := am_by M) (maxL := am_ml M) (ret := am_rt M) g4 rfl ?_
  intro p e s m args below meth c s₁ B hml hv
  obtain ⟨rfl, hW0, hR⟩ := hv
  have hx := B.exec
  have hb := B.bytes
  have hr := B.returns
  have hts := atoms_spec (ws := am_wsM M) B.pre
  have hown : s.vm.findClass (am_cn (am_ow M)) = some m.cls := by rw [← g3]; exact findClass_of_methodNamed B.named
  have hlocks := B.notSynchronized
  have hin : am_in M = true → meth.name = "<init>" := fun q => by
    have e1 := (name_of_methodNamed B.named B.method).1
    unfold am_in at q
    rw [beq_iff_eq] at q
    rw [e1, q]
  have hB : B0 ≤ s.heap.size := by rw [hR.2.2]; omega
  rw [lg_entry_eq]
  refine h p e _ s m _ below meth c s.heap [] 0 0 _ _ ⟨hx, hb, hml, hown, fun w hw => hts w (List.mem_cons_of_mem _ hw), hin, hW0, hB⟩ ⟨Nat.le_refl d, Nat.le_refl (40 * d), by rw [Nat.zero_add]; exact Nat.le_refl mc, by rw [Nat.zero_add]; exact Nat.le_refl ms⟩ hR rfl va_S.rf (am_LR_entry hlen) ⟨?_, ?_⟩
  · intro H locs cells slots lsr pc v sh' hi' nx a b c' k sw hi1 hv1 hR1 hZ1 hS1 hc1 hs1 hQ
    obtain ⟨-, ⟨n, hd, -⟩, hok⟩ := am_okW hi1
    rw [Nat.zero_add] at hc1 hs1
    have hok' : am_rt M = some .int ∧ b = 0 ∨ am_rt M = some .boolean ∧ b = 1 := by
      simpa [am_okI] using hok
    have hlen1 : sh'.length = sh.length + mc := by
      have q1 := hR1.2.2
      have q2 := hR.2.2
      omega
    refine W.widen (k := mc) (n := ms) (Nat.le_of_eq hc1) hs1 ?_
    rcases hok' with ⟨e1, e2⟩ | ⟨e1, e2⟩
    · refine W.iret hx hb (by rw [hr, e1]) (fun t ht hWt => ?_) hS1.2.2 hd hlocks
      rw [e1]
      exact ⟨⟨v, (sh', hi'), rfl, hQ, by rw [ht]; exact hR1, hlen1⟩, hS1.F ht⟩
    · refine W.zret (ty := .boolean) hx hb (by rw [hr, e1]) (by rcases hv1 e2 with rfl | rfl <;> rfl) (fun t ht hWt => ?_) hS1.2.2 hd hlocks
      rw [e1]
      exact ⟨⟨v, (sh', hi'), rfl, hQ, by rw [ht]; exact hR1, hlen1⟩, hS1.F ht⟩
  · intro H locs cells slots lsr pc sh' hi' nx a b c' k sw hi1 hR1 hZ1 hS1 hc1 hs1 hQ
    obtain ⟨-, ⟨n, hd, -⟩, hok⟩ := am_okW hi1
    rw [Nat.zero_add] at hc1 hs1
    have hok' : am_rt M = none := by
      simpa [am_okI] using hok
    have hlen1 : sh'.length = sh.length + mc := by
      have q1 := hR1.2.2
      have q2 := hR.2.2
      omega
    refine W.widen (k := mc) (n := ms) (Nat.le_of_eq hc1) hs1 ?_
    refine W.vret hx hb (by rw [hr, hok']) (fun t ht hWt => ?_) hS1.2.2 hd hlocks
    rw [hok']
    exact ⟨⟨(sh', hi'), rfl, hQ, by rw [ht]; exact hR1, hlen1⟩, hS1.F ht⟩
