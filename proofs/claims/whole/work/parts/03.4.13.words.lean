theorem am_mok_221 : (List.range 3).all (fun i => am_mok (221 + i)) = true := by decide +kernel
