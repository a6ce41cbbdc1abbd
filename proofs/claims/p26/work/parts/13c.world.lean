set_option maxRecDepth 1000000
theorem pm_cB : pm_cmp (pm_run none 20000 299 187 0 [(0, .ref 1131)] [] (pm_new pm_wA (.inr (12, (pm_Ts 12).map defaultValue)) 77)) pm_w1 0 1179 = true := by decide +kernel
