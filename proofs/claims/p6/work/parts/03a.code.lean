/-! the code tables are what decode gives -/
set_option maxRecDepth 100000
theorem pm_cc0 : pm_rng 0 14 pm_ckC = true := by decide +kernel
theorem pm_cc14 : pm_rng 14 14 pm_ckC = true := by decide +kernel
theorem pm_cc28 : pm_rng 28 17 pm_ckC = true := by decide +kernel
theorem pm_cc45 : pm_rng 45 14 pm_ckC = true := by decide +kernel
