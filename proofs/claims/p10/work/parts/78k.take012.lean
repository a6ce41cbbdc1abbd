set_option maxRecDepth 100000
/-! the steps, one after the other -/
/-- the steps as they were read, not yet taken -/
def cpW (s : ps_S) (p : Nat) (L : List tp_P) (m : Nat) : Prop := ∀ (k : Nat) (st : tp_P), m ≤ k → L[k]? = some st → cpT s (stc p k) st ∧ (ps_i s (stc p k) 8).toInt = 0 ∧ ps_i s (stc p k) 9 = 0 ∧ ps_i s (stc p k) 10 = 0 ∧ ps_i s (stc p k) 11 = 0

/-- a proof as it stands -/
def cpP (s : ps_S) (p : Nat) (D : List tq_R) (c : Nat) : Prop := cpD s p D ∧ (ps_i s p 8).toInt = D.length ∧ (ps_i s p 9).toInt = c

/-- where a proof's own cells lie -/
def CPF (p q : Nat) : Prop := q = p ∨ (p + 14 ≤ q ∧ q ≤ p + 19) ∨ (p + 44 ≤ q ∧ q ≤ p + 409)
