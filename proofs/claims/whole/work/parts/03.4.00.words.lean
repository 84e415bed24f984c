theorem am_lf_ok : am_lf.all (fun q => match am_cl[q.2.2.1]? with
  | some (C, T, N) => am_wd q.2.2.2.2 (.fieldLink (am_cn q.1) q.2.1 C (T q.2.2.2.1).2.1 (T q.2.2.2.1).2.2.1) && decide (q.2.2.2.1 < N) && decide ((T q.2.2.2.1).1 = C) && decide (C = am_cn q.2.2.1)
  | none => false) = true := by decide +kernel
