theorem am_lf_ok : am_lf.all (fun q => match am_cl[q.2.2.1]? with
  | some (C, T, N) => am_wd q.2.2.2.2 (.fieldLink (am_cn q.1) q.2.1 C (T q.2.2.2.1).2.1 (T q.2.2.2.1).2.2.1) && decide (q.2.2.2.1 < N) && decide ((T q.2.2.2.1).1 = C) && decide (C = am_cn q.2.2.1)
  | none => false) = true := by decide +kernel
theorem am_ls_ok : am_ls.all (fun q => match am_sn[q.2.2.1 - 1001]? with
  | some (n, ds) => decide (1001 ≤ q.2.2.1) && (if q.2.2.2.1 = 1 then am_wn q.2.2.2.2 (.fieldLinkNest (am_cn q.1) q.2.1 "WrongCoats" n ds "WrongCoats") else am_wd q.2.2.2.2 (.fieldLink (am_cn q.1) q.2.1 "WrongCoats" n ds))
  | none => false) = true := by decide +kernel
/-- the words of a call -/
def am_cw1 (own j M kd ui : Nat) : Bool :=
  if kd = 8 then am_wd ui (.methodLink (am_cn own) j arraycopyName)
  else if kd = 9 then am_wd ui (.methodLink (am_cn own) j Lib.objectInit)
  else if kd = 10 then am_wd ui (.methodLink (am_cn own) j Lib.Math.max.name)
  else if kd = 11 then am_wd ui (.methodLink (am_cn own) j Lib.Math.min.name)
  else if kd = 12 then am_wd ui (.methodLink (am_cn own) j Lib.Math.abs.name)
  else (if kd = 2 then am_wn ui (.methodLinkNest (am_cn own) j (am_ym M) "WrongCoats") else am_wd ui (.methodLink (am_cn own) j (am_ym M))) && decide (M < 224) && decide (1 ≤ M) &&
    (if kd = 0 ∨ kd = 3 then am_wd (am_mw.getD M (0, 0, 0)).1 (.instanceMethod (am_ym M)) else am_wd (am_mw.getD M (0, 0, 0)).1 (.static (am_ym M))) &&
    (if kd = 0 then am_wd (am_mw.getD M (0, 0, 0)).2.1 (.selects (am_cn (am_ow M)) (am_ym M) (am_ym M)) else true) && (if kd = 3 then am_in M && decide (am_rt M = none) else true)
theorem am_lm_ok : am_lm.all (fun q => am_cw1 q.1 q.2.1 q.2.2.1 q.2.2.2.1 q.2.2.2.2) = true := by decide +kernel
/-- the words of a method -/
def am_mok (M : Nat) : Bool := am_wd (am_uc M) (.code (am_ym M) (am_by M) (am_ml M) (am_rt M)) && am_wd (am_mw.getD M (0, 0, 0)).2.2 (.initialized (am_ym M).cls) && decide ((am_ym M).cls = am_cn (am_ow M)) && plainName (am_ym M).cls &&
  decide ((am_ym M).cls ≠ "java/lang/invoke/MethodHandle" ∧ (am_ym M).cls ≠ "java/lang/invoke/VarHandle" ∧ (parseMethodDescriptor (am_ym M).desc).map (fun d => d.parameters.length) = some (am_np M)) && decide (am_ml M ≤ 20)
theorem am_mok_1 : (List.range 40).all (fun i => am_mok (1 + i)) = true := by decide +kernel
theorem am_mok_41 : (List.range 40).all (fun i => am_mok (41 + i)) = true := by decide +kernel
theorem am_mok_81 : (List.range 40).all (fun i => am_mok (81 + i)) = true := by decide +kernel
theorem am_mok_121 : (List.range 40).all (fun i => am_mok (121 + i)) = true := by decide +kernel
theorem am_mok_161 : (List.range 40).all (fun i => am_mok (161 + i)) = true := by decide +kernel
theorem am_mok_201 : (List.range 23).all (fun i => am_mok (201 + i)) = true := by decide +kernel
theorem am_mok_ok {M : Nat} (h1 : 1 ≤ M) (h2 : M < 224) : am_mok M = true := by
  by_cases h1001 : M < 41
  · have h := List.all_eq_true.mp am_mok_1 (M - 1) (List.mem_range.mpr (by omega))
    have e : 1 + (M - 1) = M := by omega
    rw [e] at h
    exact h
  by_cases h1041 : M < 81
  · have h := List.all_eq_true.mp am_mok_41 (M - 41) (List.mem_range.mpr (by omega))
    have e : 41 + (M - 41) = M := by omega
    rw [e] at h
    exact h
  by_cases h1081 : M < 121
  · have h := List.all_eq_true.mp am_mok_81 (M - 81) (List.mem_range.mpr (by omega))
    have e : 81 + (M - 81) = M := by omega
    rw [e] at h
    exact h
  by_cases h1121 : M < 161
  · have h := List.all_eq_true.mp am_mok_121 (M - 121) (List.mem_range.mpr (by omega))
    have e : 121 + (M - 121) = M := by omega
    rw [e] at h
    exact h
  by_cases h1161 : M < 201
  · have h := List.all_eq_true.mp am_mok_161 (M - 161) (List.mem_range.mpr (by omega))
    have e : 161 + (M - 161) = M := by omega
    rw [e] at h
    exact h
  by_cases h1201 : M < 224
  · have h := List.all_eq_true.mp am_mok_201 (M - 201) (List.mem_range.mpr (by omega))
    have e : 201 + (M - 201) = M := by omega
    rw [e] at h
    exact h
  omega
theorem am_lc_ok : am_lc.all (fun q => am_wd q.2.2.2 (.classLink (am_cn q.1) q.2.1 (am_cn q.2.2.1)) && decide (q.2.2.1 < 10)) = true := by decide +kernel
theorem am_lk_ok : am_lk.all (fun q => am_wd q.2.2.2 (.constant (am_cn q.1) q.2.1 q.2.2.1)) = true := by decide +kernel
theorem am_ll_ok : am_ll.all (fun q => am_wd q.2.2.2 (.constantLong (am_cn q.1) q.2.1 (Int64.ofNat q.2.2.1))) = true := by decide +kernel
/-- the words of a class -/
def am_cok (c : Nat) : Bool := match am_cl[c]?, am_cw[c]?, am_tys[c]? with
  | some (C, T, N), some (ini, ins, lay), some ty => decide (C = am_cn c) && decide (N = am_nf c) && am_wd ini (.initialized C) && am_wd ins (.instantiable C N) && decide (lay.length = N) && (List.range N).all (fun k => am_wd (lay.getD k 0) (u_lay C T k) && decide (parseFieldDescriptor (T k).2.2.1 = some (ty k)) && decide (am_fk c k = (match ty k with
      | .int => 0
      | .boolean => 1
      | .object _ => 2
      | .array _ => 2
      | _ => 3)) && (List.range N).all (fun j => decide (k = j) || decide ((T k).2.1 ≠ (T j).2.1)))
  | _, _, _ => false
theorem am_cok_ok : (List.range 10).all am_cok = true := by decide +kernel
theorem am_w8_ok : am_wd (am_w8.getD 1 0) (.native arraycopyName) && am_wd (am_w8.getD 2 0) (.static arraycopyName) && am_wd (am_w8.getD 3 0) (.initialized "java/lang/System") = true := by decide +kernel
theorem am_w9_ok : am_wd (am_w9.getD 0 0) (.instanceMethod Lib.objectInit) && am_wd (am_w9.getD 1 0) (.code Lib.objectInit ⟨#[0xb1]⟩ 1 none) = true := by decide +kernel
theorem am_wa_ok : am_wd (am_wa.getD 0 0) (.arrayClass .int) = true := by decide +kernel
theorem am_wm_max : (am_wd 115 (.static Lib.Math.max.name) && am_wd 116 (.code Lib.Math.max.name Lib.Math.max.code 2 (some .int)) && am_wd 84 (.initialized "java/lang/Math")) = true := by decide +kernel
theorem am_wm_min : (am_wd 438 (.static Lib.Math.min.name) && am_wd 439 (.code Lib.Math.min.name Lib.Math.min.code 2 (some .int)) && am_wd 84 (.initialized "java/lang/Math")) = true := by decide +kernel
theorem am_wm_abs : (am_wd 502 (.static Lib.Math.abs.name) && am_wd 503 (.code Lib.Math.abs.name Lib.Math.abs.code 1 (some .int)) && am_wd 84 (.initialized "java/lang/Math")) = true := by decide +kernel
