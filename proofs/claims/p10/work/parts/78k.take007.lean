set_option maxRecDepth 100000
theorem cpN_k {s : ps_S} {t : Nat} {st : tp_P} (N : cpN s t st) {k : Nat} (hk : k < tp_nn st.1.1) : (ps_a s (t + 1) k).toInt = pr_k st k ∧ k < 3 := by
  have h3 := tp_nn_le (r := st.1.1)
  refine ⟨?_, by omega⟩
  unfold pr_k
  rcases (show k = 0 ∨ k = 1 ∨ k = 2 by omega) with rfl | rfl | rfl
  · exact N.2.1 (by omega)
  · exact N.2.2.1 (by omega)
  · exact N.2.2.2 (by omega)

/-- what stands when k premises are gone through -/
def cpI (s : ps_S) (p : Nat) (h : tx_H) (Θ : List tq_H) (D : List tq_R) (st : tp_P) (k : Nat) : Prop := (CW s (stc p D.length + 6) (tq_mk h Θ D st).2.1 ∧ ∀ j, j < 3 → CW s (otc p j) (ou_k (tq_mk h Θ D st).2.2 j)) ∧ (ps_i s (stc p D.length) 10 = tq_zi D (fun q => q.2.2.1) (if st.1.1 = 10 then tq_b st.2.1.1 else 0) st k ∧ ps_i s (stc p D.length) 11 = tq_zi D (fun q => q.2.2.2.1) (if st.1.1 = 12 then tq_b st.1.2.1 else 0) st k ∧ ps_j s (stc p D.length) 12 = tq_zj D (fun q => q.2.2.2.2) ((1 : Int64) <<< (Int32.toInt64 (nI D.length) &&& 63)) st k) ∧ (st.1.1 ≠ 11 → PA s (stc p D.length) D (tq_za D st (tq_mk h Θ D st).2.2 k)) ∧ (st.1.1 = 11 → (ps_i s (stc p D.length) 8).toInt = 1 ∧ ps_i s (stc p D.length) 9 = 0 ∧ (ps_a s (stc p D.length + 8) 0).toInt = D.length) ∧ cpN s (stc p D.length) st
