/-! the code tables are what decode gives -/
set_option maxRecDepth 100000
theorem pm_cc202 : pm_rng 202 4 pm_ckC = true := by decide +kernel
theorem pm_cc206 : pm_rng 206 9 pm_ckC = true := by decide +kernel
theorem pm_cc215 : pm_rng 215 17 pm_ckC = true := by decide +kernel
theorem pm_cc232 : pm_rng 232 7 pm_ckC = true := by decide +kernel
