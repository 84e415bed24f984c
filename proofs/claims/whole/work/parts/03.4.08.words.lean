theorem am_mok_121 : (List.range 20).all (fun i => am_mok (121 + i)) = true := by decide +kernel
