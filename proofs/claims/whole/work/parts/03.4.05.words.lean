theorem am_mok_61 : (List.range 20).all (fun i => am_mok (61 + i)) = true := by decide +kernel
