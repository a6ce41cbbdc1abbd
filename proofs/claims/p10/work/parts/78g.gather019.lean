set_option maxRecDepth 100000
/-- what gathering may change -/
def GQ (p i : Nat) (s s' : ps_S) : Prop := cfr (CST p i) s s' ∧ (∀ f, f ≠ 8 → f ≠ 9 → ps_i s' (stc p i) f = ps_i s (stc p i) f) ∧ ps_j s' (stc p i) = ps_j s (stc p i)

theorem GQ_refl {p i : Nat} {s : ps_S} : GQ p i s s := ⟨cfr_refl, fun _ _ _ => rfl, rfl⟩

theorem GQ_8 {p i m : Nat} {v w : Int32} {s s' : ps_S} (F : GQ p i s s') : GQ p i s (ps_ui (ps_ua s' (stc p i + 8) m v) (stc p i) 8 w) := ⟨cfr_i (cfr_a F.1 (Or.inr rfl)) (Or.inl rfl), fun f h8 h9 => by
  rw [ps_i_ui, if_neg (by omega)]
  exact F.2.1 f h8 h9, F.2.2⟩

theorem GQ_9 {p i : Nat} {w : Int32} {s s' : ps_S} (F : GQ p i s s') : GQ p i s (ps_ui s' (stc p i) 9 w) := ⟨cfr_i F.1 (Or.inl rfl), fun f h8 h9 => by
  rw [ps_i_ui, if_neg (by omega)]
  exact F.2.1 f h8 h9, F.2.2⟩
