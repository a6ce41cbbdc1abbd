set_option maxRecDepth 1000000
theorem pm_cA566 : pm_cmp (pm_run none 20000 299 148 0 [(0, .ref 0)] [] (pm_new pm_w0 (.inr (11, (pm_Ts 11).map defaultValue)) 13)) pm_wA 566 565 = true := by decide +kernel
