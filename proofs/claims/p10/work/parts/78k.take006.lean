set_option maxRecDepth 100000
theorem tq_np_le {r : Nat} : tq_np r ≤ 3 := by
  unfold tq_np
  split
  · decide
  · exact tp_nn_le

theorem tq_zi_is {D : List tq_R} {F : tq_R → Int32} {z : Int32} {st : tp_P} : tq_or D F z st = tq_zi D F z st (tq_np st.1.1) := by
  unfold tq_or
  have h3 := tq_np_le (r := st.1.1)
  generalize tq_np st.1.1 = m at *
  rcases (show m = 0 ∨ m = 1 ∨ m = 2 ∨ m = 3 by omega) with rfl | rfl | rfl | rfl <;> rfl

theorem tq_zj_is {D : List tq_R} {F : tq_R → Int64} {z : Int64} {st : tp_P} : tq_oj D F z st = tq_zj D F z st (tq_np st.1.1) := by
  unfold tq_oj
  have h3 := tq_np_le (r := st.1.1)
  generalize tq_np st.1.1 = m at *
  rcases (show m = 0 ∨ m = 1 ∨ m = 2 ∨ m = 3 by omega) with rfl | rfl | rfl | rfl <;> rfl

theorem tq_za_is {D : List tq_R} {st : tp_P} {o : List Nat × (List Nat × List Nat)} (h11 : st.1.1 ≠ 11) : tq_as D st o = tq_za D st o (tq_np st.1.1) := by
  unfold tq_as
  rw [if_neg h11]
  have h3 := tq_np_le (r := st.1.1)
  generalize tq_np st.1.1 = m at *
  rcases (show m = 0 ∨ m = 1 ∨ m = 2 ∨ m = 3 by omega) with rfl | rfl | rfl | rfl <;> rfl

/-- premises that are there -/
theorem pr_lt_k {Θ : List tq_H} {D : List tq_R} {st : tp_P} (h : tq_pr Θ D st) {k : Nat} (hk : k < tq_np st.1.1) : pr_k st k < D.length ∧ k < tp_nn st.1.1 := by
  have h12 : st.1.1 ≠ 12 := fun e => by
    unfold tq_np at hk
    rw [if_pos e] at hk
    omega
  have e : tq_np st.1.1 = tp_nn st.1.1 := by
    unfold tq_np
    rw [if_neg h12]
  unfold tq_pr at h
  rw [if_neg h12] at h
  have h3 := tp_nn_le (r := st.1.1)
  refine ⟨?_, by omega⟩
  unfold pr_k
  rcases (show k = 0 ∨ k = 1 ∨ k = 2 by omega) with rfl | rfl | rfl
  · exact h.1 (by omega)
  · exact h.2.1 (by omega)
  · exact h.2.2 (by omega)
