set_option maxRecDepth 100000
theorem pm_d160 : pm_rng 160 10 pm_ckM = true := by decide +kernel
theorem pm_d170 : pm_rng 170 10 pm_ckM = true := by decide +kernel
theorem pm_d180 : pm_rng 180 10 pm_ckM = true := by decide +kernel
theorem pm_d190 : pm_rng 190 10 pm_ckM = true := by decide +kernel
theorem pm_d200 : pm_rng 200 10 pm_ckM = true := by decide +kernel
theorem pm_d210 : pm_rng 210 10 pm_ckM = true := by decide +kernel
theorem pm_d220 : pm_rng 220 10 pm_ckM = true := by decide +kernel
