set_option maxRecDepth 100000
theorem pm_d280 : pm_rng 280 5 pm_ckM = true := by decide +kernel
theorem pm_d285 : pm_rng 285 5 pm_ckM = true := by decide +kernel
theorem pm_d290 : pm_rng 290 5 pm_ckM = true := by decide +kernel
theorem pm_d295 : pm_rng 295 5 pm_ckM = true := by decide +kernel
theorem pm_d300 : pm_rng 300 5 pm_ckM = true := by decide +kernel
theorem pm_d305 : pm_rng 305 5 pm_ckM = true := by decide +kernel
