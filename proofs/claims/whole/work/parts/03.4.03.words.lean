theorem am_mok_21 : (List.range 20).all (fun i => am_mok (21 + i)) = true := by decide +kernel
