set_option maxRecDepth 100000
theorem cpR_cfr {C : Nat → Prop} {s s' : ps_S} {t : Nat} {D : List tq_R} {R : tq_R} (h : cpR s t D R) (F : cfr C s s') (hC : ∀ q, t ≤ q → q ≤ t + 8 → ¬ C q) : cpR s' t D R := by
  obtain ⟨h0, h1, h2, h3, h4, h5, h6⟩ := h
  have f0 := F t (hC t (Nat.le_refl _) (by omega))
  have f8 := F (t + 8) (hC _ (by omega) (by omega))
  refine ⟨cv_W_cfr h0 F (hC _ (by omega) (by omega)) (hC _ (by omega) (by omega)), by rw [f0.1]; exact h1, h2, fun n y hy => ?_, by rw [f0.1]; exact h4, by rw [f0.1]; exact h5, by rw [f0.2.1]; exact h6⟩
  rw [f8.2.2.2.1]
  exact h3 n y hy

theorem cpD_cfr {C : Nat → Prop} {s s' : ps_S} {p : Nat} {D : List tq_R} (h : cpD s p D) (F : cfr C s s') (hC : ∀ q, stc p 0 ≤ q → q < stc p D.length → ¬ C q) : cpD s' p D := ⟨h.1, fun k R hk => cpR_cfr (h.2 k R hk) F (fun q a b => hC q (by unfold stc at *; omega) (by
  have := (List.getElem?_eq_some_iff.mp hk).1
  unfold stc at *
  omega))⟩

theorem cSh_cfr {C : Nat → Prop} {s s' : ps_S} {q : Nat} {Θ : List tq_H} (h : cSh s q Θ) (F : cfr C s s') (hC : ∀ r, q ≤ r → r ≤ q + 30 → ¬ C r) : cSh s' q Θ := by
  obtain ⟨h0, h1, h2⟩ := h
  have f0 := F q (hC q (Nat.le_refl _) (by omega))
  refine ⟨by rw [f0.1]; exact h0, h1, fun k x hk => ?_⟩
  have hkl := (List.getElem?_eq_some_iff.mp hk).1
  obtain ⟨g0, g1, g2, g3⟩ := h2 k x hk
  exact ⟨cv_W_cfr g0 F (hC _ (by omega) (by omega)) (hC _ (by omega) (by omega)), by rw [(F (q + 4) (hC _ (by omega) (by omega))).2.2.2.1]; exact g1, by rw [(F (q + 5) (hC _ (by omega) (by omega))).2.2.2.1]; exact g2, by rw [(F (q + 6) (hC _ (by omega) (by omega))).2.2.2.1]; exact g3⟩

/-- what a step may change -/
def CTO (p i q : Nat) : Prop := (stc p i ≤ q ∧ q ≤ stc p i + 8) ∨ (p + 404 ≤ q ∧ q ≤ p + 409) ∨ (p + 14 ≤ q ∧ q ≤ p + 19)

theorem stc_lt {p i : Nat} (hp : p = 50 ∨ p = 460) (hi : i < 40) : stc p i + 8 < p + 404 ∧ stc p i < 900 ∧ p + 44 ≤ stc p i := by
  unfold stc
  omega
