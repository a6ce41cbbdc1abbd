set_option maxRecDepth 100000
/-! a premise, as the step names it -/
