theorem am_mok_101 : (List.range 20).all (fun i => am_mok (101 + i)) = true := by decide +kernel
