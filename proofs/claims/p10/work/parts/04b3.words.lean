set_option maxRecDepth 100000
theorem pm_d255 : pm_rng 255 5 pm_ckM = true := by decide +kernel
theorem pm_d260 : pm_rng 260 5 pm_ckM = true := by decide +kernel
theorem pm_d265 : pm_rng 265 5 pm_ckM = true := by decide +kernel
theorem pm_d270 : pm_rng 270 5 pm_ckM = true := by decide +kernel
theorem pm_d275 : pm_rng 275 5 pm_ckM = true := by decide +kernel
