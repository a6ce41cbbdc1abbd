set_option maxRecDepth 100000
section
variable {T : Nat → Nat} {N : Nat} {h : tx_H} {s0 s : ps_S} {b i : Nat} {P : List tp_P} {c : tp_P} {fr : List (List Nat)} {q : Nat} {C0 : pv_C} {R : ps_S → Prop}
theorem mv_P_add {s s' : ps_S} {fr : List (List Nat)} {w : List Nat} (hP : mv_P s fr) (hl : fr.length < 12) (hw : tx_w w) (e2 : (ps_i s' 1131 23).toInt = (fr.length : Int) + 1) (eb : ∀ k, k < fr.length → ps_b s' 1143 k = ps_b s 1143 k) (en : ps_b s' 1143 fr.length = tx_m w) : mv_P s' (fr ++ [w]) := by
  obtain ⟨f1, f2, f3⟩ := hP
  have hlen : (fr ++ [w]).length = fr.length + 1 := List.length_append
  refine ⟨by omega, by omega, fun k w' hk => ?_⟩
  by_cases hkl : k < fr.length
  · rw [List.getElem?_append_left hkl] at hk
    rw [eb k hkl]
    exact f3 k w' hk
  · have hk' := (List.getElem?_eq_some_iff.mp hk).1
    have e : k = fr.length := by omega
    rw [e] at hk ⊢
    rw [List.getElem?_append_right (Nat.le_refl _), Nat.sub_self, List.getElem?_cons_zero] at hk
    cases hk
    exact ⟨hw, en⟩

/-- its number -/
def rv_F (s : ps_S) (b : Nat) (T : Nat → Nat) (N : Nat) (h : tx_H) (fr : List (List Nat)) (q : Nat) (v : Int32) (s' : ps_S) : Prop := (∃ a fr2, tx_fi fr (tx_tok T N q).2.2.2.1 = some (a, fr2) ∧ v.toInt = a ∧ rv_L s' b T N h fr2 q ∧ kq [1143] [23] s s') ∨ (tx_fi fr (tx_tok T N q).2.2.2.1 = none ∧ (ps_i s' 1131 5).toInt = 2 ∧ (ps_i s' 1131 6).toInt = (tx_tok T N q).2.1 ∧ kq [] [5, 6] s s')

end
