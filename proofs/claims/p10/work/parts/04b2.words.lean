set_option maxRecDepth 100000
theorem pm_d230 : pm_rng 230 10 pm_ckM = true := by decide +kernel
theorem pm_d240 : pm_rng 240 5 pm_ckM = true := by decide +kernel
theorem pm_d245 : pm_rng 245 5 pm_ckM = true := by decide +kernel
theorem pm_d250 : pm_rng 250 5 pm_ckM = true := by decide +kernel
