set_option maxRecDepth 100000
theorem PA_add {s : ps_S} {p i oo : Nat} {D : List tq_R} {A : List (List Nat)} {y : List Nat} {q : tq_R} {v : Int32} (hA : PA s (stc p i) D A) (hv : v.toInt = oo) (hD : D[oo]? = some q) (hq : q.1 = y) : (A.length < 12 → PA (ps_ui (ps_ua s (stc p i + 8) A.length v) (stc p i) 8 (ps_i s (stc p i) 8 + 1)) (stc p i) D (A ++ [y])) ∧ (12 ≤ A.length → PA (ps_ui s (stc p i) 9 1) (stc p i) D (if 12 < A.length then A else A ++ [y])) := by
  obtain ⟨a1, a2, a3, a4, a5⟩ := hA
  have hlen : (A ++ [y]).length = A.length + 1 := List.length_append
  refine ⟨fun h => ⟨?_, by omega, fun _ => ?_, fun z => by omega, fun n w hn hw => ?_⟩, fun h => ⟨?_, by split <;> omega, fun z => ?_, fun _ => ?_, fun n w hn hw => ?_⟩⟩
  · rw [ps_i_ui, if_pos ⟨rfl, rfl⟩, xj1 a1 (by omega), hlen]
    omega
  · rw [ps_i_ui, if_neg (by omega)]
    exact a3 (by omega)
  · show ∃ (o : Nat) (q : tq_R), (ps_a (ps_ua s (stc p i + 8) A.length v) (stc p i + 8) n).toInt = o ∧ _
    rw [ps_a_ua]
    rcases Nat.lt_or_ge n A.length with u | u
    · rw [if_neg (by omega)]
      rw [List.getElem?_append_left u] at hw
      exact a5 n w hn hw
    · have := (List.getElem?_eq_some_iff.mp hw).1
      have e : n = A.length := by omega
      rw [if_pos ⟨rfl, e⟩]
      rw [e, List.getElem?_append_right (Nat.le_refl _), Nat.sub_self] at hw
      cases hw
      exact ⟨oo, q, hv, hD, hq⟩
  · rw [ps_i_ui, if_neg (by omega), a1]
    split <;> omega
  · split at z <;> omega
  · rw [ps_i_ui, if_pos ⟨rfl, rfl⟩]
    decide
  · show ∃ (o : Nat) (q : tq_R), (ps_a s (stc p i + 8) n).toInt = o ∧ _
    refine a5 n w hn ?_
    split at hw
    · exact hw
    · rw [List.getElem?_append_left (by omega)] at hw
      exact hw
