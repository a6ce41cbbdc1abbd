set_option maxRecDepth 100000
/-! the reference's reader: what begins -/
/-- moving, with so many counted -/
def mv_D (to : Nat) (s : ps_S) (T : Nat → Nat) (N : Nat) (S : List tx_F) (p : Nat) (l : List Nat) (fr : List (List Nat)) (m : Nat) : Prop := p ≤ N ∧ mv_K s (tx_tok T N p) ∧ mv_B s S ∧ (ps_i s 1131 30).toInt = (tx_bs S).length ∧ (ps_i s 1131 31).toInt = m ∧ mv_W s to l ∧ mv_P s fr ∧ mv_G s
