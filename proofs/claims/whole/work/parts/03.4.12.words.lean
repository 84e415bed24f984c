theorem am_mok_201 : (List.range 20).all (fun i => am_mok (201 + i)) = true := by decide +kernel
