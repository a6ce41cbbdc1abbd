set_option maxRecDepth 100000
section
variable {p th : Nat} {h : tx_H} {Θ : List tq_H} {D : List tq_R} {st : tp_P} {s : ps_S}
/-- all that a step rests on -/
def cpX (s : ps_S) (p th : Nat) (h : tx_H) (Θ : List tq_H) (D : List tq_R) (st : tp_P) : Prop := (cv_H s th h ∧ ps_r s p 6 = th ∧ (th = 2 ∨ th = 26)) ∧ cSh s 870 Θ ∧ cpD s p D ∧ cpT s (stc p D.length) st ∧ cv_W s (p + 12) []

theorem cpX_cfr {C : Nat → Prop} {s' : ps_S} (hp : p = 50 ∨ p = 460) (h39 : D.length < 40) (X : cpX s p th h Θ D st) (F : cfr C s s') (hC : ∀ q, C q → stc p D.length + 6 ≤ q ∧ q ≤ p + 409 ∨ p + 14 ≤ q ∧ q ≤ p + 19) : cpX s' p th h Θ D st := by
  obtain ⟨⟨x1, x2, x3⟩, x4, x5, x6, x7⟩ := X
  have hl := stc_lt hp h39
  have h8 := x1.2.2.1
  have nC : ∀ q, ¬ (stc p D.length + 6 ≤ q ∧ q ≤ p + 409 ∨ p + 14 ≤ q ∧ q ≤ p + 19) → ¬ C q := fun q a b => a (hC q b)
  exact ⟨⟨cv_H_cfr x1 F (fun q a b => nC q (by omega)), by rw [(F p (nC p (by omega))).2.2.1]; exact x2, x3⟩, cSh_cfr x4 F (fun q a b => nC q (by omega)), cpD_cfr x5 F (fun q a b => nC q (by unfold stc at *; omega)), cpT_cfr x6 F (fun q a b => nC q (by omega)), cv_W_cfr x7 F (nC _ (by omega)) (nC _ (by omega))⟩

theorem prem_1 (X : cpX s p th h Θ D st) (hD : tq_GD h.1 D) {k : Nat} (hk : k < D.length) : ∃ R, D[k]? = some R ∧ tq_r D k = R.1 ∧ tq_a D k = R.2.1 ∧ cpR s (stc p k) D R ∧ tq_G h.1 R := by
  obtain ⟨R, e1, e2, e3, e4⟩ := tq_at hk
  exact ⟨R, e1, e2, e3, X.2.2.1.2 k R e1, hD k R e1⟩

theorem head_at {l : List Nat} : l.head? = l[0]? := by cases l <;> rfl

/-- the head of a row -/
theorem fs_92h {n r : Nat} {s : ps_S} {l : List Nat} {c : Nat} {R : Int32 → ps_S → Prop} (hr : ps_is r 5 = true) (W : cv_W s r l) (k1 : ∀ v : Int32, l.head? = some c → v.toInt = c → R v s) (k0 : ∀ v : Int32, l.head? ≠ some c → v.toInt ≠ c → R v s) : pl_Cl n 92 [.ref r, .int 0] s (ps_rI R) := by
  refine fs_92o (i := 0) hr W rfl (fun v q => ?_)
  rcases q with ⟨d, hd, e⟩ | ⟨hd, e⟩
  · rw [← head_at] at hd
    by_cases y : d = c
    · exact k1 v (by rw [hd, y]) (by rw [e, y])
    · exact k0 v (by rw [hd]; exact fun w => y (Option.some.inj w)) (by omega)
  · rw [← head_at] at hd
    exact k0 v (by rw [hd]; exact fun w => by cases w) (by omega)

end
