set_option maxRecDepth 100000
/-- the token at p stands -/
def mv_A (T : Nat → Nat) (N p : Nat) (s s' : ps_S) : Prop := kq [] [7, 8, 9, 10, 11] s s' ∧ mv_K s' (tx_tok T N p)

