/-- the words of a method -/
def am_mok (M : Nat) : Bool := am_wd (am_uc M) (.code (am_ym M) (am_by M) (am_ml M) (am_rt M)) && am_wd (am_mw3 M).2.2.1 (.initialized (am_ym M).cls) && decide ((am_ym M).cls = am_cn (am_ow M)) && plainName (am_ym M).cls &&
  decide ((am_ym M).cls ≠ "java/lang/invoke/MethodHandle" ∧ (am_ym M).cls ≠ "java/lang/invoke/VarHandle" ∧ (parseMethodDescriptor (am_ym M).desc).map (fun d => d.parameters.length) = some (am_np M)) && decide (am_ml M ≤ 20) &&
  (if am_mkd M = 0 then am_wd (am_mw3 M).1 (.instanceMethod (am_ym M)) && am_wd (am_mw3 M).2.1 (.selects (am_cn (am_ow M)) (am_ym M) (am_ym M)) else if am_mkd M = 3 then am_wd (am_mw3 M).1 (.instanceMethod (am_ym M)) && am_in M && decide (am_rt M = none) else am_wd (am_mw3 M).1 (.static (am_ym M)))
theorem am_mok_1 : (List.range 20).all (fun i => am_mok (1 + i)) = true := by decide +kernel
