theorem am_okl_6 : (List.range 100).all (fun i => am_okP 0 (600 + i)) = true := by decide +kernel
theorem am_okl_7 : (List.range 100).all (fun i => am_okP 0 (700 + i)) = true := by decide +kernel
theorem am_okl_8 : (List.range 100).all (fun i => am_okP 0 (800 + i)) = true := by decide +kernel
theorem am_okl_9 : (List.range 100).all (fun i => am_okP 0 (900 + i)) = true := by decide +kernel
theorem am_okl_10 : (List.range 100).all (fun i => am_okP 0 (1000 + i)) = true := by decide +kernel
theorem am_okl_11 : (List.range 100).all (fun i => am_okP 0 (1100 + i)) = true := by decide +kernel
theorem am_okl_12 : (List.range 100).all (fun i => am_okP 0 (1200 + i)) = true := by decide +kernel
