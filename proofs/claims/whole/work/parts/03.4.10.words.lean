theorem am_mok_161 : (List.range 20).all (fun i => am_mok (161 + i)) = true := by decide +kernel
