set_option maxRecDepth 100000
theorem pm_cc0 : pm_rng 0 40 pm_ckC = true := by decide +kernel
theorem pm_cc40 : pm_rng 40 40 pm_ckC = true := by decide +kernel
theorem pm_cc80 : pm_rng 80 40 pm_ckC = true := by decide +kernel
theorem pm_cc120 : pm_rng 120 67 pm_ckC = true := by decide +kernel
