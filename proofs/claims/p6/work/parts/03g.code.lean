/-! the law's code table is what decode gives -/
set_option maxRecDepth 100000
def pm_ckP (pc : Nat) : Bool := match pm_codeT 310 pc with
  | some (i, k) => decide (decode (pm_bytes 310) pc = .ok (i, k))
  | none => true
theorem pm_cl0 : pm_rng 0 100 pm_ckP = true := by decide +kernel
theorem pm_cl100 : pm_rng 100 100 pm_ckP = true := by decide +kernel
theorem pm_cl200 : pm_rng 200 100 pm_ckP = true := by decide +kernel
theorem pm_cl300 : pm_rng 300 100 pm_ckP = true := by decide +kernel
theorem pm_cl400 : pm_rng 400 100 pm_ckP = true := by decide +kernel
theorem pm_cl500 : pm_rng 500 100 pm_ckP = true := by decide +kernel
theorem pm_cl600 : pm_rng 600 100 pm_ckP = true := by decide +kernel
theorem pm_cl700 : pm_rng 700 100 pm_ckP = true := by decide +kernel
theorem pm_cl800 : pm_rng 800 66 pm_ckP = true := by decide +kernel
