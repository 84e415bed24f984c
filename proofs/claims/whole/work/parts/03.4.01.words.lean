theorem am_ls_ok : am_ls.all (fun q => match am_sn[q.2.2.1 - 1001]? with
  | some (n, ds) => decide (1001 ≤ q.2.2.1) && (if q.2.2.2.1 = 1 then am_wn q.2.2.2.2 (.fieldLinkNest (am_cn q.1) q.2.1 "WrongCoats" n ds "WrongCoats") else am_wd q.2.2.2.2 (.fieldLink (am_cn q.1) q.2.1 "WrongCoats" n ds))
  | none => false) = true := by decide +kernel
def am_mw3 (M : Nat) : Nat × Nat × Nat × Nat := am_mw.getD M (0, 0, 0, 9)
def am_mkd (M : Nat) : Nat := (am_mw3 M).2.2.2
/-- the words of a call -/
def am_cw1 (own j M kd ui : Nat) : Bool :=
  if kd = 8 then am_wd ui (.methodLink (am_cn own) j arraycopyName)
  else if kd = 9 then am_wd ui (.methodLink (am_cn own) j Lib.objectInit)
  else if kd = 10 then am_wd ui (.methodLink (am_cn own) j Lib.Math.max.name)
  else if kd = 11 then am_wd ui (.methodLink (am_cn own) j Lib.Math.min.name)
  else if kd = 12 then am_wd ui (.methodLink (am_cn own) j Lib.Math.abs.name)
  else (if kd = 2 then am_wn ui (.methodLinkNest (am_cn own) j (am_ym M) "WrongCoats") else am_wd ui (.methodLink (am_cn own) j (am_ym M))) && decide (M < 224) && decide (1 ≤ M) && (if kd = 0 then am_mkd M == 0 else if kd = 3 then am_mkd M == 3 else am_mkd M == 1)
theorem am_lm_ok : am_lm.all (fun q => am_cw1 q.1 q.2.1 q.2.2.1 q.2.2.2.1 q.2.2.2.2) = true := by decide +kernel
