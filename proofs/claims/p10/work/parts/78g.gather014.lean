set_option maxRecDepth 100000
theorem stc_is {p i : Nat} (hp : p = 50 ∨ p = 460) (hi : i < 40) : ps_is (stc p i) 8 = true := ((prf hp).1 i hi).2

theorem stc_row {p i : Nat} (hp : p = 50 ∨ p = 460) (hi : i < 40) : ps_is (stc p i + 2) 5 = true ∧ ps_is (stc p i + 4) 5 = true ∧ ps_is (stc p i + 6) 5 = true := (str (stc_is hp hi) (stc_lt hp hi).2.1).2.2

theorem stc_c {p i : Nat} (hp : p = 50 ∨ p = 460) (hi : i < 40) : ps_c0 (stc p i) 1 = stc p i + 1 ∧ ps_c0 (stc p i) 4 = stc p i + 2 ∧ ps_c0 (stc p i) 5 = stc p i + 4 ∧ ps_c0 (stc p i) 6 = stc p i + 6 ∧ ps_c0 (stc p i) 7 = stc p i + 8 := (str (stc_is hp hi) (stc_lt hp hi).2.1).1

/-! what is assumed, as it is gathered -/
def PA (s : ps_S) (t : Nat) (D : List tq_R) (A : List (List Nat)) : Prop := (ps_i s t 8).toInt = (min A.length 12 : Nat) ∧ A.length ≤ 13 ∧ (A.length ≤ 12 → ps_i s t 9 = 0) ∧ (12 < A.length → ps_i s t 9 ≠ 0) ∧ ∀ (n : Nat) (y : List Nat), n < 12 → A[n]? = some y → ∃ (o : Nat) (q : tq_R), (ps_a s (t + 8) n).toInt = o ∧ D[o]? = some q ∧ q.1 = y
