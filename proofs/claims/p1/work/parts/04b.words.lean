set_option maxRecDepth 100000
theorem pm_d8 : pm_rng 160 20 pm_ckM = true := by decide +kernel
theorem pm_d9 : pm_rng 180 20 pm_ckM = true := by decide +kernel
theorem pm_d10 : pm_rng 200 20 pm_ckM = true := by decide +kernel
theorem pm_d11 : pm_rng 220 20 pm_ckM = true := by decide +kernel
theorem pm_d12 : pm_rng 240 20 pm_ckM = true := by decide +kernel
theorem pm_d13 : pm_rng 260 20 pm_ckM = true := by decide +kernel
theorem pm_d14 : pm_rng 280 20 pm_ckM = true := by decide +kernel
theorem pm_d15 : pm_rng 300 10 pm_ckM = true := by decide +kernel
