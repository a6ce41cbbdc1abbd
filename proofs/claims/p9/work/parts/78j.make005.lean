set_option maxRecDepth 100000
section
variable {p th n1 n2 n3 ax x : Nat} {tt f : List Nat} {h : tx_H} {Θ : List tq_H} {D : List tq_R} {s : ps_S} {R : Int32 → ps_S → Prop}
theorem r12_ne {p i n1 : Nat} (hp : p = 50 ∨ p = 460) (hi : i < 40) : 870 + 7 + 2 * n1 ≠ stc p i + 6 ∧ 870 + 7 + 2 * n1 ≠ stc p i + 6 + 1 ∧ 870 + 7 + 2 * n1 + 1 ≠ stc p i + 6 := by
  have := stc_lt hp hi
  omega

theorem r12_is {n1 : Nat} (h : n1 < 12) : ps_is (870 + 7 + 2 * n1) 5 = true := ((shf (q := 870) (Or.inl rfl)).1 n1 h).2


end
