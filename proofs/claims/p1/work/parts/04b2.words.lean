set_option maxRecDepth 100000
theorem pm_d230 : pm_rng 230 10 pm_ckM = true := by decide +kernel
theorem pm_d240 : pm_rng 240 10 pm_ckM = true := by decide +kernel
theorem pm_d250 : pm_rng 250 10 pm_ckM = true := by decide +kernel
theorem pm_d260 : pm_rng 260 10 pm_ckM = true := by decide +kernel
theorem pm_d270 : pm_rng 270 10 pm_ckM = true := by decide +kernel
theorem pm_d280 : pm_rng 280 10 pm_ckM = true := by decide +kernel
theorem pm_d290 : pm_rng 290 10 pm_ckM = true := by decide +kernel
theorem pm_d300 : pm_rng 300 10 pm_ckM = true := by decide +kernel
