set_option maxRecDepth 100000
/-- cells of the step itself -/
def CST (p i q : Nat) : Prop := q = stc p i ∨ q = stc p i + 8
