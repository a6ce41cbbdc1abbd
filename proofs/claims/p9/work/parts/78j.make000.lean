set_option maxRecDepth 100000
/-! the class: a step made, rule by rule -/
theorem CW_cfr {C : Nat → Prop} {s s' : ps_S} {r : Nat} {L : List Nat} (W : CW s r L) (F : cfr C s s') (h0 : ¬ C r) (h1 : ¬ C (r + 1)) : CW s' r L := by
  obtain ⟨w1, w2, w3⟩ := W
  have f := F r h0
  exact ⟨by rw [f.1]; exact w1, fun z => cv_W_cfr (w2 z) F h0 h1, fun z => by rw [f.1]; exact w3 z⟩

/-- begun: nothing is left out, nothing assumed yet -/
def cpB (s : ps_S) (p t : Nat) : Prop := (∀ k, k < 3 → CW s (otc p k) []) ∧ (ps_i s t 8).toInt = 0 ∧ ps_i s t 9 = 0 ∧ ps_i s t 10 = 0 ∧ ps_i s t 11 = 0

/-- made -/
def cpM (s : ps_S) (p : Nat) (h : tx_H) (Θ : List tq_H) (D : List tq_R) (st : tp_P) : Prop := CW s (stc p D.length + 6) (tq_mk h Θ D st).2.1 ∧ (CW s (otc p 0) (tq_mk h Θ D st).2.2.1 ∧ CW s (otc p 1) (tq_mk h Θ D st).2.2.2.1 ∧ CW s (otc p 2) (tq_mk h Θ D st).2.2.2.2) ∧ (ps_i s (stc p D.length) 10 = (if st.1.1 = 10 then tq_b st.2.1.1 else 0) ∧ ps_i s (stc p D.length) 11 = (if st.1.1 = 12 then tq_b st.1.2.1 else 0)) ∧ (st.1.1 ≠ 11 → PA s (stc p D.length) D []) ∧ (st.1.1 = 11 → (ps_i s (stc p D.length) 8).toInt = 1 ∧ ps_i s (stc p D.length) 9 = 0 ∧ (ps_a s (stc p D.length + 8) 0).toInt = D.length) ∧ cpN s (stc p D.length) st

def cpK (s : ps_S) (p : Nat) (h : tx_H) (Θ : List tq_H) (D : List tq_R) (st : tp_P) (v : Int32) (s' : ps_S) : Prop := v.toInt = (tq_mk h Θ D st).1 ∧ ((tq_mk h Θ D st).1 = 0 → cpM s' p h Θ D st) ∧ cfr (CTO p D.length) s s'

theorem PA_0 {s : ps_S} {t : Nat} {D : List tq_R} (h8 : (ps_i s t 8).toInt = 0) (h9 : ps_i s t 9 = 0) : PA s t D [] := ⟨by rw [h8]; rfl, Nat.zero_le _, fun _ => h9, fun z => absurd z (Nat.not_lt_zero _), fun n y _ hy => by cases hy⟩
