theorem am_mok_81 : (List.range 20).all (fun i => am_mok (81 + i)) = true := by decide +kernel
