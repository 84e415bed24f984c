theorem am_mok_ok {M : Nat} (h1 : 1 ≤ M) (h2 : M < 224) : am_mok M = true := by
  by_cases h1001 : M < 21
  · have h := List.all_eq_true.mp am_mok_1 (M - 1) (List.mem_range.mpr (by omega))
    have e : 1 + (M - 1) = M := by omega
    rw [e] at h
    exact h
  by_cases h1021 : M < 41
  · have h := List.all_eq_true.mp am_mok_21 (M - 21) (List.mem_range.mpr (by omega))
    have e : 21 + (M - 21) = M := by omega
    rw [e] at h
    exact h
  by_cases h1041 : M < 61
  · have h := List.all_eq_true.mp am_mok_41 (M - 41) (List.mem_range.mpr (by omega))
    have e : 41 + (M - 41) = M := by omega
    rw [e] at h
    exact h
  by_cases h1061 : M < 81
  · have h := List.all_eq_true.mp am_mok_61 (M - 61) (List.mem_range.mpr (by omega))
    have e : 61 + (M - 61) = M := by omega
    rw [e] at h
    exact h
  by_cases h1081 : M < 101
  · have h := List.all_eq_true.mp am_mok_81 (M - 81) (List.mem_range.mpr (by omega))
    have e : 81 + (M - 81) = M := by omega
    rw [e] at h
    exact h
  by_cases h1101 : M < 121
  · have h := List.all_eq_true.mp am_mok_101 (M - 101) (List.mem_range.mpr (by omega))
    have e : 101 + (M - 101) = M := by omega
    rw [e] at h
    exact h
  by_cases h1121 : M < 141
  · have h := List.all_eq_true.mp am_mok_121 (M - 121) (List.mem_range.mpr (by omega))
    have e : 121 + (M - 121) = M := by omega
    rw [e] at h
    exact h
  by_cases h1141 : M < 161
  · have h := List.all_eq_true.mp am_mok_141 (M - 141) (List.mem_range.mpr (by omega))
    have e : 141 + (M - 141) = M := by omega
    rw [e] at h
    exact h
  by_cases h1161 : M < 181
  · have h := List.all_eq_true.mp am_mok_161 (M - 161) (List.mem_range.mpr (by omega))
    have e : 161 + (M - 161) = M := by omega
    rw [e] at h
    exact h
  by_cases h1181 : M < 201
  · have h := List.all_eq_true.mp am_mok_181 (M - 181) (List.mem_range.mpr (by omega))
    have e : 181 + (M - 181) = M := by omega
    rw [e] at h
    exact h
  by_cases h1201 : M < 221
  · have h := List.all_eq_true.mp am_mok_201 (M - 201) (List.mem_range.mpr (by omega))
    have e : 201 + (M - 201) = M := by omega
    rw [e] at h
    exact h
  by_cases h1221 : M < 224
  · have h := List.all_eq_true.mp am_mok_221 (M - 221) (List.mem_range.mpr (by omega))
    have e : 221 + (M - 221) = M := by omega
    rw [e] at h
    exact h
  omega
theorem am_lc_ok : am_lc.all (fun q => am_wd q.2.2.2 (.classLink (am_cn q.1) q.2.1 (am_cn q.2.2.1)) && decide (q.2.2.1 < 10)) = true := by decide +kernel
theorem am_lk_ok : am_lk.all (fun q => am_wd q.2.2.2 (.constant (am_cn q.1) q.2.1 q.2.2.1)) = true := by decide +kernel
theorem am_ll_ok : am_ll.all (fun q => am_wd q.2.2.2 (.constantLong (am_cn q.1) q.2.1 (Int64.ofNat q.2.2.1))) = true := by decide +kernel
/-- the words of a class -/
def am_cok (c : Nat) : Bool := match am_cl[c]?, am_cw[c]?, am_tys[c]? with
  | some (C, T, N), some (ini, ins, lay), some ty => decide (C = am_cn c) && decide (N = am_nf c) && am_wd ini (.initialized C) && am_wd ins (.instantiable C N) && decide (lay.length = N) && (List.range N).all (fun k => am_wd (lay.getD k 0) (u_lay C T k) && decide (parseFieldDescriptor (T k).2.2.1 = some (ty k)) && decide (am_fk c k = (match ty k with
      | .int => 0
      | .boolean => 1
      | .object _ => 2
      | .array _ => 2
      | _ => 3)) && (List.range N).all (fun j => decide (k = j) || decide ((T k).2.1 ≠ (T j).2.1)))
  | _, _, _ => false
theorem am_cok_ok : (List.range 10).all am_cok = true := by decide +kernel
