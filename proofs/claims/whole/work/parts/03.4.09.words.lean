theorem am_mok_141 : (List.range 20).all (fun i => am_mok (141 + i)) = true := by decide +kernel
