theorem Rw_snoc {g g' : Nat → Int32} {a : Int} {l : List Nat} {p : Nat} (h : Rw g a l) (hl : l.length ≤ 39) (h1 : (g' a.toNat).toInt = (l.length : Int) + 1) (h2 : (g' (a.toNat + 1 + l.length)).toInt = p) (h3 : ∀ k : Nat, k ≠ a.toNat → k ≠ a.toNat + 1 + l.length → g' k = g k) : Rw g' a (l ++ [p]) := by
  obtain ⟨a1, a2, a3, a4, a5, a6⟩ := h
  refine ⟨a1, a2, a3, by rw [List.length_append]; show l.length + 1 ≤ 40; omega, by rw [h1, l1c], fun l1 q l2 e => ?_⟩
  rcases List.append_eq_append_iff.mp e with ⟨r, e1, e2⟩ | ⟨r, e1, e2⟩
  · cases r with
    | nil =>
      rw [List.append_nil] at e1
      rw [List.nil_append] at e2
      cases e2
      rw [e1]
      exact h2
    | cons c r =>
      rw [List.cons_append] at e2
      have := congrArg List.length e2
      simp at this
  · cases r with
    | nil =>
      rw [List.append_nil] at e1
      rw [List.nil_append] at e2
      cases e2
      rw [← e1]
      exact h2
    | cons c r =>
      rw [List.cons_append] at e2
      cases e2
      have : l1.length < l.length := by rw [e1, List.length_append, List.length_cons]; omega
      rw [h3 _ (by omega) (by omega)]
      exact a6 l1 q r e1
