/-! the code tables are what decode gives -/
set_option maxRecDepth 100000
theorem pm_cc59 : pm_rng 59 17 pm_ckC = true := by decide +kernel
theorem pm_cc76 : pm_rng 76 13 pm_ckC = true := by decide +kernel
theorem pm_cc89 : pm_rng 89 24 pm_ckC = true := by decide +kernel
theorem pm_cc113 : pm_rng 113 29 pm_ckC = true := by decide +kernel
