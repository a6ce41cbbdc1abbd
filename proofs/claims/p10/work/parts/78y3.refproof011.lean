set_option maxRecDepth 100000
theorem tx_bk_0 {tk : tx_K} : tx_bk tk ≠ 0 := by
  unfold tx_bk
  split <;> decide
