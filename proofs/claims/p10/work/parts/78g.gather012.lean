set_option maxRecDepth 100000
theorem cpN_eq {s s' : ps_S} {t : Nat} {st : tp_P} (h : cpN s t st) (e0 : ps_i s' t 0 = ps_i s t 0) (e1 : ps_a s' (t + 1) = ps_a s (t + 1)) : cpN s' t st := by
  unfold cpN
  rw [e0, e1]
  exact h

/-- what a step came to -/
def cpR (s : ps_S) (t : Nat) (D : List tq_R) (R : tq_R) : Prop := cv_W s (t + 6) R.1 ∧ (ps_i s t 8).toInt = R.2.1.length ∧ R.2.1.length ≤ 12 ∧ (∀ (n : Nat) (y : List Nat), R.2.1[n]? = some y → ∃ (o : Nat) (q : tq_R), (ps_a s (t + 8) n).toInt = o ∧ D[o]? = some q ∧ q.1 = y) ∧ ps_i s t 10 = R.2.2.1 ∧ ps_i s t 11 = R.2.2.2.1 ∧ ps_j s t 12 = R.2.2.2.2

def cpD (s : ps_S) (p : Nat) (D : List tq_R) : Prop := D.length ≤ 40 ∧ ∀ (k : Nat) (R : tq_R), D[k]? = some R → cpR s (stc p k) D R

/-- a shelf of theorems -/
def cSh (s : ps_S) (q : Nat) (Θ : List tq_H) : Prop := (ps_i s q 5).toInt = Θ.length ∧ Θ.length ≤ 12 ∧ ∀ (k : Nat) (x : tq_H), Θ[k]? = some x → cv_W s (q + 7 + 2 * k) x.1 ∧ ps_a s (q + 4) k = x.2.1 ∧ ps_a s (q + 5) k = x.2.2.1 ∧ ps_a s (q + 6) k = x.2.2.2

theorem cpT_cfr {C : Nat → Prop} {s s' : ps_S} {t : Nat} {st : tp_P} (h : cpT s t st) (F : cfr C s s') (hC : ∀ q, t ≤ q → q ≤ t + 5 → ¬ C q) : cpT s' t st := by
  obtain ⟨h0, h1, h2, h3, h4, h5, h6, h7⟩ := h
  have f0 := F t (hC t (Nat.le_refl _) (by omega))
  have f1 := F (t + 1) (hC _ (by omega) (by omega))
  exact ⟨by rw [f0.1]; exact h0, fun z => by rw [f1.2.2.2.1]; exact h1 z, fun z => by rw [f1.2.2.2.1]; exact h2 z, fun z => by rw [f1.2.2.2.1]; exact h3 z, fun z => by rw [f0.1]; exact h4 z, fun z => by rw [f0.1]; exact h5 z, fun z => cv_W_cfr (h6 z) F (hC _ (by omega) (by omega)) (hC _ (by omega) (by omega)), fun z => cv_W_cfr (h7 z) F (hC _ (by omega) (by omega)) (hC _ (by omega) (by omega))⟩
