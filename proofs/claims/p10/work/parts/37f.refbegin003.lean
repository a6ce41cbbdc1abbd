set_option maxRecDepth 100000
theorem mv_B_bind {s : ps_S} {m : Nat} {b nt : Bool} {S : List tx_F} {w : List Nat} {v : Int64} {i : Nat} (h : mv_B s ((m, b, nt, none) :: S)) (hi : i = S.length) (hw : tx_w w) (hv : v = tx_m w) : mv_B (ps_ub (ps_ua s 1147 i ((1 : Int32) &&& 1)) 1148 i v) ((m, b, nt, some w) :: S) := by
  subst hi
  obtain ⟨b1, b2⟩ := h
  refine ⟨b1, fun j f hj => ?_⟩
  show mv_f _ (S.length + 1 - 1 - j) f
  cases j with
  | zero =>
    have hj : some (m, b, nt, some w) = some f := hj
    cases hj
    have g := b2 0 _ rfl
    rw [List.length_cons] at g
    rw [show S.length + 1 - 1 - 0 = S.length from by omega] at g ⊢
    obtain ⟨g1, g2, g3, g4⟩ := g
    refine ⟨g1, g2, g3, Or.inr ⟨w, rfl, ?_, hw, ?_⟩⟩
    · show (ps_a (ps_ua s 1147 S.length ((1 : Int32) &&& 1)) 1147 S.length).toInt = 1
      rw [ps_a_ua, if_pos ⟨rfl, rfl⟩]
      decide
    · rw [ps_b_ub, if_pos ⟨rfl, rfl⟩]
      exact hv
  | succ j =>
    have hj : S[j]? = some f := hj
    have hl := (List.getElem?_eq_some_iff.mp hj).1
    have g := b2 (j + 1) f hj
    rw [List.length_cons] at g
    obtain ⟨g1, g2, g3, g4⟩ := g
    refine ⟨g1, g2, g3, ?_⟩
    rw [ps_b_ub, if_neg (by omega)]
    show _ ∨ ∃ x, _ ∧ (ps_a (ps_ua s 1147 S.length ((1 : Int32) &&& 1)) 1147 _).toInt = 1 ∧ _
    rcases g4 with ⟨z1, z2⟩ | ⟨x, z1, z2, z3, z4⟩
    · refine Or.inl ⟨z1, ?_⟩
      show (ps_a (ps_ua s 1147 S.length ((1 : Int32) &&& 1)) 1147 _).toInt = 0
      rw [ps_a_ua, if_neg (by omega)]
      exact z2
    · refine Or.inr ⟨x, z1, ?_, z3, z4⟩
      rw [ps_a_ua, if_neg (by omega)]
      exact z2
