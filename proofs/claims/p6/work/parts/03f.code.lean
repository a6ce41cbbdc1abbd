/-! the code tables are what decode gives -/
set_option maxRecDepth 100000
theorem pm_cc278 : pm_rng 278 9 pm_ckC = true := by decide +kernel
theorem pm_cc287 : pm_rng 287 9 pm_ckC = true := by decide +kernel
theorem pm_cc296 : pm_rng 296 9 pm_ckC = true := by decide +kernel
theorem pm_cc305 : pm_rng 305 5 pm_ckC = true := by decide +kernel
