set_option maxRecDepth 100000
theorem pm_cc187 : pm_rng 187 30 pm_ckC = true := by decide +kernel
theorem pm_cc217 : pm_rng 217 30 pm_ckC = true := by decide +kernel
theorem pm_cc247 : pm_rng 247 30 pm_ckC = true := by decide +kernel
theorem pm_cc277 : pm_rng 277 33 pm_ckC = true := by decide +kernel
theorem pm_cc310 : pm_rng 310 1 pm_ckC = true := by decide +kernel
