/-! the code tables are what decode gives -/
set_option maxRecDepth 100000
theorem pm_cc142 : pm_rng 142 31 pm_ckC = true := by decide +kernel
theorem pm_cc173 : pm_rng 173 14 pm_ckC = true := by decide +kernel
theorem pm_cc187 : pm_rng 187 6 pm_ckC = true := by decide +kernel
theorem pm_cc193 : pm_rng 193 1 pm_ckC = true := by decide +kernel
theorem pm_cc194 : pm_rng 194 8 pm_ckC = true := by decide +kernel
