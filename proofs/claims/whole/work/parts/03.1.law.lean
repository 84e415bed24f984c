theorem am_okl_0 : (List.range 100).all (fun i => am_okP 0 (0 + i)) = true := by decide +kernel
theorem am_okl_1 : (List.range 100).all (fun i => am_okP 0 (100 + i)) = true := by decide +kernel
theorem am_okl_2 : (List.range 100).all (fun i => am_okP 0 (200 + i)) = true := by decide +kernel
theorem am_okl_3 : (List.range 100).all (fun i => am_okP 0 (300 + i)) = true := by decide +kernel
theorem am_okl_4 : (List.range 100).all (fun i => am_okP 0 (400 + i)) = true := by decide +kernel
theorem am_okl_5 : (List.range 100).all (fun i => am_okP 0 (500 + i)) = true := by decide +kernel
