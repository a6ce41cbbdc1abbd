set_option maxRecDepth 100000
theorem pm_eF0 : pm_rng 0 2 pm_ckF = true := by decide +kernel
theorem pm_eF2 : pm_rng 2 2 pm_ckF = true := by decide +kernel
theorem pm_eF4 : pm_rng 4 2 pm_ckF = true := by decide +kernel
theorem pm_eF6 : pm_rng 6 2 pm_ckF = true := by decide +kernel
theorem pm_eF8 : pm_rng 8 2 pm_ckF = true := by decide +kernel
theorem pm_eF10 : pm_rng 10 2 pm_ckF = true := by decide +kernel
theorem pm_eF12 : pm_rng 12 2 pm_ckF = true := by decide +kernel
theorem pm_eL0 : pm_rng 0 1 pm_ckL = true := by decide +kernel
theorem pm_eL1 : pm_rng 1 1 pm_ckL = true := by decide +kernel
theorem pm_eL2 : pm_rng 2 1 pm_ckL = true := by decide +kernel
theorem pm_eL3 : pm_rng 3 1 pm_ckL = true := by decide +kernel
theorem pm_eL4 : pm_rng 4 1 pm_ckL = true := by decide +kernel
theorem pm_eL5 : pm_rng 5 1 pm_ckL = true := by decide +kernel
theorem pm_eL6 : pm_rng 6 1 pm_ckL = true := by decide +kernel
theorem pm_eL7 : pm_rng 7 1 pm_ckL = true := by decide +kernel
theorem pm_eL8 : pm_rng 8 1 pm_ckL = true := by decide +kernel
theorem pm_eL9 : pm_rng 9 1 pm_ckL = true := by decide +kernel
theorem pm_eL10 : pm_rng 10 1 pm_ckL = true := by decide +kernel
theorem pm_eL11 : pm_rng 11 1 pm_ckL = true := by decide +kernel
theorem pm_eL13 : pm_rng 13 1 pm_ckL = true := by decide +kernel
theorem pm_eL12 : pm_rng 12 1 pm_ckL = true := by decide +kernel
theorem pm_e2 : pm_rng 0 14 pm_ckK = true := by decide +kernel
theorem pm_eO0 : pm_rng 0 1 pm_ckO = true := by decide +kernel
theorem pm_eO1 : pm_rng 1 1 pm_ckO = true := by decide +kernel
theorem pm_eO2 : pm_rng 2 1 pm_ckO = true := by decide +kernel
theorem pm_eO3 : pm_rng 3 1 pm_ckO = true := by decide +kernel
theorem pm_eO4 : pm_rng 4 1 pm_ckO = true := by decide +kernel
theorem pm_eO5 : pm_rng 5 1 pm_ckO = true := by decide +kernel
theorem pm_eO6 : pm_rng 6 1 pm_ckO = true := by decide +kernel
theorem pm_eO7 : pm_rng 7 1 pm_ckO = true := by decide +kernel
theorem pm_eO8 : pm_rng 8 1 pm_ckO = true := by decide +kernel
theorem pm_eO9 : pm_rng 9 1 pm_ckO = true := by decide +kernel
theorem pm_eO10 : pm_rng 10 1 pm_ckO = true := by decide +kernel
theorem pm_eO11 : pm_rng 11 1 pm_ckO = true := by decide +kernel
theorem pm_eO12 : pm_rng 12 1 pm_ckO = true := by decide +kernel
theorem pm_e5 : pm_rng 0 311 (fun y => Nat.blt (pm_own y) 14) = true := by decide +kernel
theorem pm_ac0 : pm_isAt (pm_AP.getD 0 0) (.arrayClass .int) = true := by decide +kernel
theorem pm_ac1 : pm_isAt (pm_AP.getD 1 0) (.arrayClass .byte) = true := by decide +kernel
theorem pm_ac2 : pm_isAt (pm_AP.getD 2 0) (.arrayClass .boolean) = true := by decide +kernel
theorem pm_ac3 : pm_isAt (pm_AP.getD 3 0) (.arrayClass .long) = true := by decide +kernel
theorem pm_ac4 : pm_isAt (pm_AP.getD 4 0) (.arrayOver (.object (pm_nm 5))) = true := by decide +kernel
theorem pm_ac5 : pm_isAt (pm_AP.getD 5 0) (.arrayOver (.object (pm_nm 6))) = true := by decide +kernel
theorem pm_ac6 : pm_isAt (pm_AP.getD 6 0) (.arrayOver (.object (pm_nm 7))) = true := by decide +kernel
theorem pm_ac7 : pm_isAt (pm_AP.getD 7 0) (.arrayOver (.object (pm_nm 8))) = true := by decide +kernel
theorem pm_oi0 : pm_isAt (pm_OI.getD 0 0) (.instanceMethod objectInit) = true := by decide +kernel
theorem pm_oi1 : pm_isAt (pm_OI.getD 1 0) (.code objectInit ⟨#[0xb1]⟩ 1 none) = true := by decide +kernel
theorem pm_mw0 : (pm_isAt (pm_MW.getD 0 (0, 0, 0)).1 (.static ⟨"java/lang/Math", "max", "(II)I"⟩) && (pm_isAt (pm_MW.getD 0 (0, 0, 0)).2.1 (.initialized "java/lang/Math") && pm_isAt (pm_MW.getD 0 (0, 0, 0)).2.2 (.code ⟨"java/lang/Math", "max", "(II)I"⟩ Lib.Math.max.code 2 (some .int)))) = true := by decide +kernel
theorem pm_mw1 : (pm_isAt (pm_MW.getD 1 (0, 0, 0)).1 (.static ⟨"java/lang/Math", "min", "(II)I"⟩) && (pm_isAt (pm_MW.getD 1 (0, 0, 0)).2.1 (.initialized "java/lang/Math") && pm_isAt (pm_MW.getD 1 (0, 0, 0)).2.2 (.code ⟨"java/lang/Math", "min", "(II)I"⟩ Lib.Math.min.code 2 (some .int)))) = true := by decide +kernel
theorem pm_mw2 : (pm_isAt (pm_MW.getD 2 (0, 0, 0)).1 (.static ⟨"java/lang/Math", "min", "(JJ)J"⟩) && (pm_isAt (pm_MW.getD 2 (0, 0, 0)).2.1 (.initialized "java/lang/Math") && pm_isAt (pm_MW.getD 2 (0, 0, 0)).2.2 (.code ⟨"java/lang/Math", "min", "(JJ)J"⟩ Lib.MathLoose.min_long.code 4 (some .long)))) = true := by decide +kernel
theorem pm_e6 : pm_rng 0 310 (fun y => Nat.blt (pm_own y) 13) = true := by decide +kernel
