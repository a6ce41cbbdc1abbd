set_option maxRecDepth 100000
section
variable {p th : Nat} {h : tx_H} {Θ : List tq_H} {L : List tp_P} {s0 : ps_S} {R : ps_S → Prop}
theorem tq_G_step {D : List tq_R} {st : tp_P} (hD : tq_GD h.1 D) (hT : tq_GT h.1 Θ) (hwt : WFt h) (hG : tp_G h.1 h.2.length st) (hpr : tq_pr Θ D st) (hm : (tq_mk h Θ D st).1 = 0) (hf : tq_fit h (tq_res h Θ D st)) : tq_GD h.1 (D ++ [tq_res h Θ D st]) := fun k R hk => by
  rcases Nat.lt_or_ge k D.length with u | u
  · rw [List.getElem?_append_left u] at hk
    exact hD k R hk
  · have hkl := (List.getElem?_eq_some_iff.mp hk).1
    rw [List.length_append, List.length_singleton] at hkl
    rw [show k = D.length from by omega, List.getElem?_append_right (Nat.le_refl _), Nat.sub_self] at hk
    have e : tq_res h Θ D st = R := Option.some.inj hk
    rw [← e]
    refine ⟨⟨tq_mk_ws hwt hG hpr hD hT hm, hf.1, hf.2.2⟩, hf.2.1, fun y hy => ?_⟩
    have aD : ∀ (j : Nat) (y : List Nat), y ∈ tq_a D j → y ≠ [] ∧ y.length ≤ 40 := fun j y hy => by
      unfold tq_a at hy
      rw [List.getD_eq_getElem?_getD] at hy
      cases e2 : D[j]? with
      | none => rw [e2] at hy; cases hy
      | some q => rw [e2] at hy; exact (hD j q e2).2.2 y hy
    have hy : y ∈ tq_as D st (tq_mk h Θ D st).2.2 := hy
    by_cases e11 : st.1.1 = 11
    · have ea : tq_as D st (tq_mk h Θ D st).2.2 = [st.2.2.2] := by unfold tq_as; rw [if_pos e11]
      rw [ea, List.mem_singleton] at hy
      rw [hy]
      obtain ⟨wf1, wf2⟩ := hG.2.2.1 (Or.inl e11)
      refine ⟨fun z => ?_, wf2⟩
      obtain ⟨c, t, e2⟩ := ws_ne wf1
      rw [z] at e2
      cases e2
    · rw [tq_za_is e11] at hy
      have key : ∀ m, y ∈ tq_za D st (tq_mk h Θ D st).2.2 m → y ≠ [] ∧ y.length ≤ 40 := by
        intro m
        induction m with
        | zero => intro hy; cases hy
        | succ m ih =>
          intro hy
          rcases tq_ga_mem hy with hy | hy
          · exact ih hy
          · exact aD _ y hy
      exact key _ hy

end
