set_option maxRecDepth 1000000
theorem pm_cA760 : pm_cmp (pm_run none 20000 299 148 0 [(0, .ref 0)] [] (pm_new pm_w0 (.inr (11, (pm_Ts 11).map defaultValue)) 13)) pm_wA 760 190 = true := by decide +kernel
theorem pm_cA950 : pm_cmp (pm_run none 20000 299 148 0 [(0, .ref 0)] [] (pm_new pm_w0 (.inr (11, (pm_Ts 11).map defaultValue)) 13)) pm_wA 950 181 = true := by decide +kernel
theorem pm_cB : pm_cmp (pm_run none 20000 299 187 0 [(0, .ref 1131)] [] (pm_new pm_wA (.inr (12, (pm_Ts 12).map defaultValue)) 77)) pm_w1 0 1179 = true := by decide +kernel
