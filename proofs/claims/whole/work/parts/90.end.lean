/-! THE CLAIM OUT OF ONE WALK OF THE LAW'S BODY. Your part is whole_start (and what it stands on); all else here is the same for every law, but numbers. -/
def R_law : String := "WrongCoatsLaw"
def lw_P (b : Addr) (xs : List Int32) (args : Array Value) (s : State) : Prop := args = #[.ref b] ∧ s.IntsAt b xs ∧ xs.length ≤ 3072 ∧ (Jvm.Cond.and given_1 narrow_1).before args s = true
def lw_Q (_ : Array Value) (s : State) (o : Outcome) (t : State) : Prop := o = .returned (some (.int 1)) ∧ Framed s o t [] 600000 7302250
def lw_Z (below : List Frame) (a : Array Value) (s : State) : State → Prop := fun t => ∃ o, t.status = .running ∧ Ended t below o ∧ lw_Q a s o t
/-- the law's own end, with 1 on the stack, nothing written that was there before, its room as the claim has it -/
theorem lw_ret {p : Program} {l : Launch} {e : Env} {s : State} {m : MethodId} {below : List Frame} {meth : Method} {c : Code} {b : Nat} (hx : p.tables.exec = Jvm.exec) (hb : c.code = code) (hr : meth.sig.returnType = ret) (hlocks : meth.locks = false) {pc : Nat} {H : Heap} {ls : Array Slot} (hdg : decode code pc = .ok (.ireturn, 1)) : W p l e room_1 s m #[Value.ref b] below meth c H [] 600000 7302250 (lw_Z below #[Value.ref b] s) (F0 m pc ls [.int 1]) := by
  intro T hT X
  obtain ⟨fs, hret, hrun, hended, hW, hframe⟩ := X.leave (v := some (.int 1)) (hlocks := hlocks) (fun h => by rw [hr] at h; cases h)
  have hmeth' : T.vm.method? m = some meth := X.method'
  refine ⟨T.setFrames fs, ?_, .returned (some (.int 1)), hrun, hended, rfl, ⟨_, rfl⟩, hW, hframe⟩
  jvm_step X.here [X.here.top, hx, hb, hdg, hmeth', hr, ret, narrow_b1]
  (try refine ⟨rfl, ?_⟩); (try refine ⟨rfl, ?_⟩)
  first | (intro acts; rw [hret _ acts rfl rfl rfl]) | rw [hret _ _ rfl rfl rfl]
  exact Steps.refl _
/-- what holds at the law's entry: the machine, the code, the tables' words (any of lw_tbl by 'hts w (by decide +kernel)'), the script of L ints xs at the cell b, what the Statement gives of the start (any of its parts by flat_of_before) -/
def lw_At (p : Program) (s : State) (m : MethodId) (meth : Method) (c : Code) (b L : Nat) (xs : Nat → Int32) : Prop :=
  p.tables.exec = Jvm.exec ∧ c.code = code ∧ meth.sig.returnType = ret ∧ c.maxLocals = 4 ∧ s.vm.findClass R_law = some m.cls ∧ (∀ w ∈ lw_tbl, w.before #[Value.ref b] s = true) ∧ va_X b L xs s s.heap ∧ b < s.heap.size ∧ meth.locks = false ∧ (Jvm.Cond.and given_1 narrow_1).before #[Value.ref b] s = true
theorem am_tab_ABOVE {s : State} {b : Nat} (hs : ∀ c ∈ flatC (Jvm.Cond.and given_1 narrow_1), c.before #[Value.ref b] s = true) (hA : ∀ a : Nat, a < s.heap.size → ¬ s.heap.size ≤ a) : ∃ t : Nat, (Term.static "WrongCoats" "ABOVE" "[I").eval #[Value.ref b] s none [] s = some (.ref t) ∧ va_T .int t 7 (fun j => .int (am_tab1 j)) (fun q => s.heap.size ≤ q) s s.heap := by
  refine va_Tof (by decide) (hs _ (by decide +kernel)) (va_eqt (hs (Cond.eq (.length (.static "WrongCoats" "ABOVE" "[I")) (.int 7)) (by decide +kernel))) (fun j hj => ?_) hA
  match j, hj with
  | 0, _ => exact va_eqt (hs (Cond.eq (.elem (.static "WrongCoats" "ABOVE" "[I") (.int 0)) (.int (-1))) (by decide +kernel))
  | 1, _ => exact va_eqt (hs (Cond.eq (.elem (.static "WrongCoats" "ABOVE" "[I") (.int 1)) (.int (0))) (by decide +kernel))
  | 2, _ => exact va_eqt (hs (Cond.eq (.elem (.static "WrongCoats" "ABOVE" "[I") (.int 2)) (.int (0))) (by decide +kernel))
  | 3, _ => exact va_eqt (hs (Cond.eq (.elem (.static "WrongCoats" "ABOVE" "[I") (.int 3)) (.int (0))) (by decide +kernel))
  | 4, _ => exact va_eqt (hs (Cond.eq (.elem (.static "WrongCoats" "ABOVE" "[I") (.int 4)) (.int (1))) (by decide +kernel))
  | 5, _ => exact va_eqt (hs (Cond.eq (.elem (.static "WrongCoats" "ABOVE" "[I") (.int 5)) (.int (2))) (by decide +kernel))
  | 6, _ => exact va_eqt (hs (Cond.eq (.elem (.static "WrongCoats" "ABOVE" "[I") (.int 6)) (.int (0))) (by decide +kernel))
  | j + 7, hj => exact absurd hj (by omega)
theorem am_lst_ABOVE : am_wn 2168 (.laysStatic "WrongCoats" "ABOVE" "[I") = true := by decide +kernel
theorem am_tab_BODIES {s : State} {b : Nat} (hs : ∀ c ∈ flatC (Jvm.Cond.and given_1 narrow_1), c.before #[Value.ref b] s = true) (hA : ∀ a : Nat, a < s.heap.size → ¬ s.heap.size ≤ a) : ∃ t : Nat, (Term.static "WrongCoats" "BODIES" "[I").eval #[Value.ref b] s none [] s = some (.ref t) ∧ va_T .int t 28 (fun j => .int (am_tab2 j)) (fun q => s.heap.size ≤ q) s s.heap := by
  refine va_Tof (by decide) (hs _ (by decide +kernel)) (va_eqt (hs (Cond.eq (.length (.static "WrongCoats" "BODIES" "[I")) (.int 28)) (by decide +kernel))) (fun j hj => ?_) hA
  match j, hj with
  | 0, _ => exact va_eqt (hs (Cond.eq (.elem (.static "WrongCoats" "BODIES" "[I") (.int 0)) (.int (10))) (by decide +kernel))
  | 1, _ => exact va_eqt (hs (Cond.eq (.elem (.static "WrongCoats" "BODIES" "[I") (.int 1)) (.int (11))) (by decide +kernel))
  | 2, _ => exact va_eqt (hs (Cond.eq (.elem (.static "WrongCoats" "BODIES" "[I") (.int 2)) (.int (12))) (by decide +kernel))
  | 3, _ => exact va_eqt (hs (Cond.eq (.elem (.static "WrongCoats" "BODIES" "[I") (.int 3)) (.int (13))) (by decide +kernel))
  | 4, _ => exact va_eqt (hs (Cond.eq (.elem (.static "WrongCoats" "BODIES" "[I") (.int 4)) (.int (20))) (by decide +kernel))
  | 5, _ => exact va_eqt (hs (Cond.eq (.elem (.static "WrongCoats" "BODIES" "[I") (.int 5)) (.int (0))) (by decide +kernel))
  | 6, _ => exact va_eqt (hs (Cond.eq (.elem (.static "WrongCoats" "BODIES" "[I") (.int 6)) (.int (0))) (by decide +kernel))
  | 7, _ => exact va_eqt (hs (Cond.eq (.elem (.static "WrongCoats" "BODIES" "[I") (.int 7)) (.int (21))) (by decide +kernel))
  | 8, _ => exact va_eqt (hs (Cond.eq (.elem (.static "WrongCoats" "BODIES" "[I") (.int 8)) (.int (0))) (by decide +kernel))
  | 9, _ => exact va_eqt (hs (Cond.eq (.elem (.static "WrongCoats" "BODIES" "[I") (.int 9)) (.int (30))) (by decide +kernel))
  | 10, _ => exact va_eqt (hs (Cond.eq (.elem (.static "WrongCoats" "BODIES" "[I") (.int 10)) (.int (0))) (by decide +kernel))
  | 11, _ => exact va_eqt (hs (Cond.eq (.elem (.static "WrongCoats" "BODIES" "[I") (.int 11)) (.int (0))) (by decide +kernel))
  | 12, _ => exact va_eqt (hs (Cond.eq (.elem (.static "WrongCoats" "BODIES" "[I") (.int 12)) (.int (0))) (by decide +kernel))
  | 13, _ => exact va_eqt (hs (Cond.eq (.elem (.static "WrongCoats" "BODIES" "[I") (.int 13)) (.int (0))) (by decide +kernel))
  | 14, _ => exact va_eqt (hs (Cond.eq (.elem (.static "WrongCoats" "BODIES" "[I") (.int 14)) (.int (40))) (by decide +kernel))
  | 15, _ => exact va_eqt (hs (Cond.eq (.elem (.static "WrongCoats" "BODIES" "[I") (.int 15)) (.int (0))) (by decide +kernel))
  | 16, _ => exact va_eqt (hs (Cond.eq (.elem (.static "WrongCoats" "BODIES" "[I") (.int 16)) (.int (50))) (by decide +kernel))
  | 17, _ => exact va_eqt (hs (Cond.eq (.elem (.static "WrongCoats" "BODIES" "[I") (.int 17)) (.int (0))) (by decide +kernel))
  | 18, _ => exact va_eqt (hs (Cond.eq (.elem (.static "WrongCoats" "BODIES" "[I") (.int 18)) (.int (51))) (by decide +kernel))
  | 19, _ => exact va_eqt (hs (Cond.eq (.elem (.static "WrongCoats" "BODIES" "[I") (.int 19)) (.int (0))) (by decide +kernel))
  | 20, _ => exact va_eqt (hs (Cond.eq (.elem (.static "WrongCoats" "BODIES" "[I") (.int 20)) (.int (0))) (by decide +kernel))
  | 21, _ => exact va_eqt (hs (Cond.eq (.elem (.static "WrongCoats" "BODIES" "[I") (.int 21)) (.int (60))) (by decide +kernel))
  | 22, _ => exact va_eqt (hs (Cond.eq (.elem (.static "WrongCoats" "BODIES" "[I") (.int 22)) (.int (0))) (by decide +kernel))
  | 23, _ => exact va_eqt (hs (Cond.eq (.elem (.static "WrongCoats" "BODIES" "[I") (.int 23)) (.int (0))) (by decide +kernel))
  | 24, _ => exact va_eqt (hs (Cond.eq (.elem (.static "WrongCoats" "BODIES" "[I") (.int 24)) (.int (70))) (by decide +kernel))
  | 25, _ => exact va_eqt (hs (Cond.eq (.elem (.static "WrongCoats" "BODIES" "[I") (.int 25)) (.int (71))) (by decide +kernel))
  | 26, _ => exact va_eqt (hs (Cond.eq (.elem (.static "WrongCoats" "BODIES" "[I") (.int 26)) (.int (0))) (by decide +kernel))
  | 27, _ => exact va_eqt (hs (Cond.eq (.elem (.static "WrongCoats" "BODIES" "[I") (.int 27)) (.int (0))) (by decide +kernel))
  | j + 28, hj => exact absurd hj (by omega)
theorem am_lst_BODIES : am_wn 3235 (.laysStatic "WrongCoats" "BODIES" "[I") = true := by decide +kernel
theorem am_tab_NAME_SIGNS {s : State} {b : Nat} (hs : ∀ c ∈ flatC (Jvm.Cond.and given_1 narrow_1), c.before #[Value.ref b] s = true) (hA : ∀ a : Nat, a < s.heap.size → ¬ s.heap.size ≤ a) : ∃ t : Nat, (Term.static "WrongCoats" "NAME_SIGNS" "[C").eval #[Value.ref b] s none [] s = some (.ref t) ∧ va_T .char t 6 (fun j => .int (am_tab3 j)) (fun q => s.heap.size ≤ q) s s.heap := by
  refine va_Tof (by decide) (hs _ (by decide +kernel)) (va_eqt (hs (Cond.eq (.length (.static "WrongCoats" "NAME_SIGNS" "[C")) (.int 6)) (by decide +kernel))) (fun j hj => ?_) hA
  match j, hj with
  | 0, _ => exact va_eqt (hs (Cond.eq (.elem (.static "WrongCoats" "NAME_SIGNS" "[C") (.int 0)) (.int (103))) (by decide +kernel))
  | 1, _ => exact va_eqt (hs (Cond.eq (.elem (.static "WrongCoats" "NAME_SIGNS" "[C") (.int 1)) (.int (115))) (by decide +kernel))
  | 2, _ => exact va_eqt (hs (Cond.eq (.elem (.static "WrongCoats" "NAME_SIGNS" "[C") (.int 2)) (.int (110))) (by decide +kernel))
  | 3, _ => exact va_eqt (hs (Cond.eq (.elem (.static "WrongCoats" "NAME_SIGNS" "[C") (.int 3)) (.int (100))) (by decide +kernel))
  | 4, _ => exact va_eqt (hs (Cond.eq (.elem (.static "WrongCoats" "NAME_SIGNS" "[C") (.int 4)) (.int (119))) (by decide +kernel))
  | 5, _ => exact va_eqt (hs (Cond.eq (.elem (.static "WrongCoats" "NAME_SIGNS" "[C") (.int 5)) (.int (111))) (by decide +kernel))
  | j + 6, hj => exact absurd hj (by omega)
theorem am_lst_NAME_SIGNS : am_wn 3033 (.laysStatic "WrongCoats" "NAME_SIGNS" "[C") = true := by decide +kernel
theorem am_ao_Law : am_wn 1053 (.arrayOver (.object "WrongCoats$Law")) = true := by decide +kernel
theorem am_ao_Sheet : am_wn 2015 (.arrayOver (.object "WrongCoats$Sheet")) = true := by decide +kernel
theorem am_ra_of {s : State} {C : String} (h : va_AO C s) : ∃ cA : ClassId, ArrOfT s cA (.object C) ∧ va_RA s cA (.object C) := by
  obtain ⟨comp, c, k, h1, h2, h3, h4, h5⟩ := Cond.arrayOver_spec h
  exact ⟨c, fun N z => ⟨(fun k h => by cases h), k, h3, comp, h4⟩, k, comp, h3, h4, h1, h5⟩
set_option maxHeartbeats 4000000 in
theorem whole_start {p : Program} {e : Env} {s : State} {m : MethodId} {below : List Frame} {meth : Method} {c : Code} (l : Launch) (hflags : l.flags = flags0) {b L : Nat} {xs : Nat → Int32} (hL : L ≤ 3072) (C0 : lw_At p s m meth c b L xs) : W p l e room_1 s m #[Value.ref b] below meth c s.heap [] 0 0 (lw_Z below #[Value.ref b] s) (entryFrame m ([Value.ref b] : List Value).toArray 4) := by
  obtain ⟨hx, hb, hr, hml, hown, hts, hX, hbl, hlocks, hgv⟩ := id C0
  have hs := flat_of_before _ hgv
  have hA : ∀ a : Nat, a < s.heap.size → ¬ s.heap.size ≤ a := fun a h => Nat.not_le.mpr h
  have htU : ∀ w ∈ am_U, w.before #[Value.ref b] s = true := fun w hw => hts w (List.mem_filter.mp hw).1
  have hk : ∀ c : Nat, ∃ x : ClassId × (Nat → Nat), ∀ q : vw_C, am_cl[c]? = some q → u_Kn s q.1 q.2.1 q.2.2 x.1 x.2 := by
    intro c
    by_cases hc : c < 10
    · obtain ⟨T, ty, t1, t2, t3, t4, t5, t6, t7⟩ := am_cls_ok hc
      obtain ⟨cC, iS, hKn⟩ := u_known htU t4 (htU _ t3)
      exact ⟨(cC, iS), fun q hq => by rw [t1] at hq; cases hq; exact hKn⟩
    · refine ⟨(0, fun _ => 0), fun q hq => ?_⟩
      have hl := (List.getElem?_eq_some_iff.mp hq).1
      have hl2 : am_cl.length = 10 := rfl
      omega
  obtain ⟨cI, kI, compI, i1, i2, i3⟩ := Cond.arrayClass_spec (htU _ (am_wd_mem am_wa_ok))
  have hAO1 : va_AO "WrongCoats$Law" s := va_AO.of (hts _ (am_wn_mem am_ao_Law))
  have hAO2 : va_AO "WrongCoats$Sheet" s := va_AO.of (hts _ (am_wn_mem am_ao_Sheet))
  obtain ⟨cL, l1, l2⟩ := am_ra_of hAO1
  obtain ⟨cS, s1, s2⟩ := am_ra_of hAO2
  have hini : (Cond.initialized "WrongCoats").before #[Value.ref b] s = true := by
    obtain ⟨T, ty, t1, t2, -⟩ := am_cls_ok (c := 8) (by omega)
    exact htU _ t2
  obtain ⟨t1, e1, T1⟩ := am_tab_ABOVE hs hA
  obtain ⟨t2, e2, T2⟩ := am_tab_BODIES hs hA
  obtain ⟨t3, e3, T3⟩ := am_tab_NAME_SIGNS hs hA
  have Z1 := va_Zof (A := fun q => s.heap.size ≤ q) (hts _ (am_wn_mem am_lst_ABOVE)) hini e1 hA
  have Z2 := va_Zof (A := fun q => s.heap.size ≤ q) (hts _ (am_wn_mem am_lst_BODIES)) hini e2 hA
  have Z3 := va_Zof (A := fun q => s.heap.size ≤ q) (hts _ (am_wn_mem am_lst_NAME_SIGNS)) hini e3 hA
  obtain ⟨ad, had, a0, a1, a2, a3⟩ : ∃ ad : Nat → Nat, (∀ k, k < 1000 → ad k = s.heap.size + k) ∧ ad 1000 = b ∧ ad 1001 = t1 ∧ ad 1002 = t2 ∧ ad 1003 = t3 :=
    ⟨fun k => if k < 1000 then s.heap.size + k else if k = 1000 then b else if k = 1001 then t1 else if k = 1002 then t2 else t3, fun k hk => by simp [hk], by simp, by simp, by simp, by simp⟩
  have hNW : am_NW s := by
    refine ⟨fun q hq n ds hn => ?_, fun q hq => ?_⟩
    · obtain ⟨q1, q2⟩ := List.mem_filter.mp hq
      have hw := List.all_eq_true.mp am_ls_ok q q1
      rw [hn] at hw
      dsimp only at hw
      rw [Bool.and_eq_true, if_pos (beq_iff_eq.mp q2)] at hw
      exact va_Nw.of rfl (hts _ (am_wn_mem hw.2))
    · obtain ⟨q1, q2⟩ := List.mem_filter.mp hq
      have hw := List.all_eq_true.mp am_lm_ok q q1
      unfold am_cw1 at hw
      rw [beq_iff_eq.mp q2] at hw
      simp at hw
      exact va_Nw.of rfl (hts _ (am_wn_mem hw.1.1.1))
  have hW0 : am_W0 L xs ad s.heap.size (cI, cL, cS) (fun c => (Classical.choose (hk c)).1, fun c => (Classical.choose (hk c)).2) s s.heap := by
    refine ⟨⟨fun c q hq => Classical.choose_spec (hk c) q hq, fun k q hq => ?_⟩, ⟨by rw [a0]; exact hX, by rw [a0]; exact hbl, had⟩, ⟨by rw [a1]; exact Z1, by rw [a1]; exact T1⟩, ⟨by rw [a2]; exact Z2, by rw [a2]; exact T2⟩, ⟨by rw [a3]; exact Z3, by rw [a3]; exact T3⟩, hAO1, hAO2, hNW⟩
    match k, hq with
    | 0, hq => cases hq; exact ⟨fun n z => ⟨(fun k h => by cases h), kI, i2, compI, i3⟩, i1⟩
    | 1, hq => cases hq; exact ⟨l1, l2⟩
    | 2, hq => cases hq; exact ⟨s1, s2⟩
    | k + 3, hq => simp [am_tl] at hq
  have hPS := am_law hL (am_PS l L xs ad s.heap.size (cI, cL, cS) (fun c => (Classical.choose (hk c)).1, fun c => (Classical.choose (hk c)).2)) (am_sound l L xs ad s.heap.size (cI, cL, cS) (fun c => (Classical.choose (hk c)).1, fun c => (Classical.choose (hk c)).2))
  rw [lg_entry_eq]
  have hLR := am_LR_entry (ad := ad) (n := 4) (as := [.ref 1000]) rfl
  have hmap : ([Value.ref 1000] : List Value).map (am_cv ad) = [Value.ref b] := by simp [am_cv, a0]
  rw [hmap] at hLR
  refine hPS p e room_1 s m _ below meth c s.heap [] 0 0 _ _ ⟨hx, hb, hml, hown, htU, (fun q => by cases q), hW0, Nat.le_refl _⟩ ⟨by decide, by decide, by decide, by decide⟩ ⟨(fun k q hq => by simp [am_ws] at hq), by decide, rfl⟩ rfl va_S.rf hLR ⟨?_, ?_⟩
  · intro H locs cells slots lsr pc v sh hi nx a b' c' k sw hins hv hR hZ hS hc hsl hQ
    obtain ⟨-, ⟨n, hd, -⟩, -⟩ := am_okW hins
    have hv1 : v = 1 := by simpa using hQ
    subst hv1
    refine va_forget (fun q hq => hS.2.2 q hq) ?_
    refine W.widen (k := 600000) (n := 7302250) (by omega) (by omega) ?_
    exact lw_ret hx hb hr hlocks hd
  · intro H locs cells slots lsr pc sh hi nx a b' c' k sw hins hR hZ hS hc hsl hQ
    cases hQ
set_option maxHeartbeats 4000000 in
theorem lw_walk (l : Launch) (hflags : l.flags = flags0) (b : Addr) (xs : List Int32) : MetFree l x (headSpec (Jvm.Cond.code x code maxLocals ret :: tables_1) room_1) (lw_P b xs) (fun _ _ _ _ _ => True) lw_Q := by
  refine MetFree.of_bodyS (code := code) (maxLocals := maxLocals) (ret := ret) (by decide) ?_ ?_
  · intro args s m h hn
    obtain ⟨meth, c, h1, h2, h3, h4, h5, h6, -, -⟩ := Cond.code_spec hn (atoms_spec (ws := Jvm.Cond.code x code maxLocals ret :: tables_1) h _ List.mem_cons_self)
    exact ⟨meth, c, h1, h2, h3, h4, h5, h6⟩
  · intro p e s m args below meth c s₁ B hml0 hP _
    obtain ⟨rfl, hx, hbd, hgv⟩ := hP
    obtain ⟨scr, harrAt, hlist, hof, hsmall⟩ := hx
    obtain ⟨hcb, hkn, -, -⟩ := State.arrayAt?_spec harrAt
    have hown : s.vm.findClass R_law = some m.cls := findClass_of_methodNamed B.named
    have hts0 : ∀ c ∈ (Jvm.Cond.code x code maxLocals ret :: tables_1), c.before #[Value.ref b] s = true := atoms_spec (ws := Jvm.Cond.code x code maxLocals ret :: tables_1) B.pre
    have hts : ∀ w ∈ lw_tbl, w.before #[Value.ref b] s = true := k2_hts_sels lw_privs (fun w hw => hts0 w (List.mem_cons_of_mem _ hw)) lw_privs_ok
    have hml : c.maxLocals = 4 := B.maxLocals_eq (hts0 _ List.mem_cons_self)
    have X₀ : Stand p l e room_1 s m #[Value.ref b] below meth c s₁ [] 0 0 := Stand.of_body B
    have hh0 : s₁.heap = s.heap := by rw [B.state]; rfl
    have hsz : scr.slots.size = xs.length := by rw [← Array.length_toList, hlist, List.length_map]
    have hval : ∀ j : Nat, j < xs.length → scr.slots[j]? = some (.int (xs.getD j 0)) := fun j hj => by
      rw [← Array.getElem?_toList, hlist]
      simp [hj]
    have hbl : b < s.heap.size := (Array.getElem?_eq_some_iff.mp hcb).1
    have hX : va_X b xs.length (fun j => xs.getD j 0) s s.heap := ⟨scr, hcb, hof, hkn, hsz, hval⟩
    have K : W p l e room_1 s m #[Value.ref b] below meth c s₁.heap [] 0 0 (lw_Z below #[Value.ref b] s) (entryFrame m ([Value.ref b] : List Value).toArray 4) := by
      rw [hh0]
      exact whole_start l hflags hbd ⟨B.exec, B.bytes, B.returns, hml, hown, hts, hX, hbl, B.notSynchronized, hgv⟩
    obtain ⟨t, a1, o, b1, b2, b3⟩ := K s₁ rfl X₀
    exact ⟨t, o, a1, b1, b2, b3⟩
theorem lw_pre_spec {args : Array Value} {s : State} (h : (Jvm.Cond.and given_1 narrow_1).before args s = true) (hr : rest_1_c.before args s = true) : ∃ (b : Addr) (xs : List Int32), lw_P b xs args s := by
  have hs := flat_of_before _ h
  have hq := flat_of_before _ hr
  have hc : (Cond.count 1).before args s = true := hs _ (by decide +kernel)
  have harr : (Cond.arrayOf (.arg 0) .int).before args s = true := hs _ (by decide +kernel)
  have hle : (Cond.le (.length (.arg 0)) (.int 3072)).before args s = true := hs _ (by decide +kernel)
  have hlen : (Cond.isInt (.length (.arg 0))).before args s = true := hq _ (by decide +kernel)
  have hall : (Cond.all (.arg 0) (.isInt (.elem (.arg 0) (.index 0)))).before args s = true := hq _ (by decide +kernel)
  obtain ⟨b, xs, hb, hx⟩ := State.ints_of_pre rfl harr hlen hall
  have hsm : xs.length < 2 ^ 31 := hx.choose_spec.2.2.2
  have hev : (Term.length (.arg 0)).eval args s none [] s = some (.int xs.length.toInt32) := hx.length_eval hb
  have hv := Cond.le_ints hev (show (Term.int 3072).eval args s none [] s = some (.int 3072) from rfl)
  have hd : xs.length.toInt32 ≤ 3072 := by
    simpa [Cond.before, Cond.holds, hv] using hle
  have hN : xs.length ≤ 3072 := (Int32.ofNat_le_ofNat hsm (by decide)).mp (show Int32.ofNat xs.length ≤ Int32.ofNat 3072 from hd)
  exact ⟨b, xs, Cond.one_arg hc (show args[0]? = some (.ref b) from hb), hx, hN, h⟩
theorem lw_comes (l : Launch) (hflags : l.flags = flags0) : Comes l x (Jvm.Cond.code x code maxLocals ret :: tables_1) room_1 (fun tb e args s => Calls_1 tb e args s ∧ rest_1 tb e args s ∧ Pre_1 tb e args s)
    (fun _ _ args s o t => lw_Q args s o t) := by
  intro p e ha hc hk s m args below hf hfit hheap happ hpre
  obtain ⟨b, xs, hP⟩ := lw_pre_spec hpre.2.2 hpre.2.1
  obtain ⟨k, o, h1, h2, h3, hQ⟩ := lw_walk l hflags b xs p e ha hc hk s m args below hf ((Spec.applies_iff_loose hf).mp happ).1 hP trivial
  exact ⟨k, o, h1, h2, h3, hQ⟩
theorem lw_frame {s t : State} {o : Outcome} {args : Array Value} (h : Framed s o t [] 600000 7302250) :
    Framed s o t (fieldLocs frame_1_writes args s ++ arrayLocs frame_1_arrays args s ++ staticLocs frame_1_statics s) 600000 7302250 := h
theorem lw_limb (L : Cond) (hL : ∀ (args : Array Value) (s t : State), L.after args s (.returned (some (.int 1))) t = true) :
    ArmFor flags0 classFile x code maxLocals ret World_1 tables_1 room_1 Calls_1 rest_1 Pre_1
      (fun tb e a s o t => postC L tb e a s o t ∧ Framed s o t (fieldLocs frame_1_writes a s ++ arrayLocs frame_1_arrays a s ++ staticLocs frame_1_statics s) 600000 7302250) := by
  intro l hflags _ _ p e ha hc hk s m args below hf hfit hheap happ hpre
  obtain ⟨k, o, h1, h2, h3, rfl, hF⟩ := lw_comes l hflags p e ha hc hk s m args below hf hfit hheap happ hpre
  exact ⟨k, _, h1, h2, h3, hL args s _, lw_frame hF⟩
theorem i_vc : Claimed_1_1 ∧ Claimed_1_2 := ⟨lw_limb limb_1_1 (fun args s t => by simp [limb_1_1, Cond.after, Cond.holds, Cond.value]), lw_limb limb_1_2 (fun args s t => Cond.after_iff.mpr (by
  first | (rw [show limb_1_2 = Cond.eq .result (.int 1) from rfl, Cond.eq_ints (x := 1) (y := 1) rfl rfl]; simp; done) | (simp [limb_1_2, Cond.value, Term.eval]; done)))⟩

