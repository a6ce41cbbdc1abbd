set_option maxRecDepth 100000
section
variable {p th : Nat} {h : tx_H} {Θ : List tq_H} {D : List tq_R} {st : tp_P} {s0 : ps_S} {R : Int32 → ps_S → Prop}
theorem CTO_X {s : ps_S} (hp : p = 50 ∨ p = 460) (hi : D.length < 40) (X : cpX s0 p th h Θ D st) (F : cfr (CTO p D.length) s0 s) : (cv_H s th h ∧ ps_r s p 6 = th) ∧ cSh s 870 Θ ∧ cpD s p D ∧ cv_W s (p + 12) [] := by
  obtain ⟨⟨x1, x2, x3⟩, x4, x5, x6, x7⟩ := X
  have hl := stc_lt hp hi
  have h8 := x1.2.2.1
  exact ⟨⟨cv_H_cfr x1 F (fun q a b => by unfold CTO; omega), by rw [(F p (by unfold CTO; omega)).2.2.1]; exact x2⟩, cSh_cfr x4 F (fun q a b => by unfold CTO; omega), cpD_cfr x5 F (fun q a b => by unfold CTO; unfold stc at *; omega), cv_W_cfr x7 F (by unfold CTO; omega) (by unfold CTO; omega)⟩

end
