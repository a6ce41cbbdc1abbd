theorem pm_blt_f {a b : Nat} (h : b ≤ a) : Nat.blt a b = false := by
  rw [Bool.eq_false_iff]
  intro q
  have := Nat.le_of_ble_eq_true q
  omega
theorem pm_mA : (pm_run none 20000 299 148 0 [(0, .ref 0)] [] (pm_new pm_w0 (.inr (11, (pm_Ts 11).map defaultValue)) 13)) = some (none, pm_wA) := by
  obtain ⟨w, hw, hz, _⟩ := pm_cmp_ok pm_cA0
  have hi : ∀ i : Nat, i < 1131 → w.1 i = pm_wA.1 i := by
    intro i hi
    rcases Nat.lt_or_ge i 566 with g0 | g0
    · obtain ⟨w2, hw2, -, h2⟩ := pm_cmp_ok pm_cA0
      rw [hw] at hw2
      cases hw2
      exact h2 i (by omega) (by omega)
    rcases Nat.lt_or_ge i 1131 with g566 | g566
    · obtain ⟨w2, hw2, -, h2⟩ := pm_cmp_ok pm_cA566
      rw [hw] at hw2
      cases hw2
      exact h2 i (by omega) (by omega)
    omega
  rw [hw]
  have e : w.1 = pm_wA.1 := by
    funext i
    rcases Nat.lt_or_ge i 1131 with g | g
    · exact hi i g
    · refine (pm_run_out _ _ _ _ _ _ _ _ _ _ hw i (by rw [hz]; exact g)).trans ?_
      show pm_up _ 0 _ i = cond (Nat.blt i 1131) _ _
      rw [pm_up_eq, if_neg (by omega), pm_blt_f g]
      rfl
  exact congrArg (fun z => some ((none : Option Value), z)) (Prod.ext e hz)
theorem pm_mB : (pm_run none 20000 299 187 0 [(0, .ref 1131)] [] (pm_new pm_wA (.inr (12, (pm_Ts 12).map defaultValue)) 77)) = some (none, pm_w1) := by
  obtain ⟨w, hw, hz, hi⟩ := pm_cmp_ok pm_cB
  rw [hw]
  have e : w.1 = pm_w1.1 := by
    funext i
    rcases Nat.lt_or_ge i 1179 with g | g
    · exact hi i (Nat.zero_le _) (by omega)
    · refine (pm_run_out _ _ _ _ _ _ _ _ _ _ hw i (by rw [hz]; exact g)).trans ?_
      show pm_up (fun i => cond (Nat.blt i 1131) _ _) 1131 _ i = cond (Nat.blt i 1179) _ _
      rw [pm_up_eq, if_neg (by omega), pm_blt_f (show 1131 ≤ i by omega), pm_blt_f g]
      rfl
  exact congrArg (fun z => some ((none : Option Value), z)) (Prod.ext e hz)
