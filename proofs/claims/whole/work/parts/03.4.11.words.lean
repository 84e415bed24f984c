theorem am_mok_181 : (List.range 20).all (fun i => am_mok (181 + i)) = true := by decide +kernel
