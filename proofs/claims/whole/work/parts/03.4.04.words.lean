theorem am_mok_41 : (List.range 20).all (fun i => am_mok (41 + i)) = true := by decide +kernel
