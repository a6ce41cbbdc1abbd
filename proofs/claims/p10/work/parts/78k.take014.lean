set_option maxRecDepth 100000
section
variable {p th : Nat} {h : tx_H} {Θ : List tq_H} {L : List tp_P} {s0 : ps_S} {R : ps_S → Prop}
theorem tq_cs_is {D : List tq_R} {st : tp_P} (hc : tq_cs h Θ D st = 0) : tq_pr Θ D st ∧ (tq_mk h Θ D st).1 = 0 ∧ tq_fit h (tq_res h Θ D st) := by
  by_cases hp : tq_pr Θ D st
  · by_cases hm : (tq_mk h Θ D st).1 = 0
    · by_cases hf : tq_fit h (tq_res h Θ D st)
      · exact ⟨hp, hm, hf⟩
      · rw [tq_cs_5 hp hm hf] at hc
        cases hc
    · rw [tq_cs_m hp hm] at hc
      exact absurd hc hm
  · rw [tq_cs_1 hp] at hc
    cases hc

end
