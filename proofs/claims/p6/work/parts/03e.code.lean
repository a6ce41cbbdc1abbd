/-! the code tables are what decode gives -/
set_option maxRecDepth 100000
theorem pm_cc239 : pm_rng 239 14 pm_ckC = true := by decide +kernel
theorem pm_cc253 : pm_rng 253 3 pm_ckC = true := by decide +kernel
theorem pm_cc256 : pm_rng 256 3 pm_ckC = true := by decide +kernel
theorem pm_cc259 : pm_rng 259 19 pm_ckC = true := by decide +kernel
