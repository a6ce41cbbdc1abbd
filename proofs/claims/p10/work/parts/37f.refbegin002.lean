set_option maxRecDepth 100000
theorem mv_B_not {s : ps_S} {m : Nat} {b nt : Bool} {S : List tx_F} {x3 : Int32} {i : Nat} (h : mv_B s ((m, b, false, none) :: S)) (hi : i = S.length) (hx : x3.toInt = (if nt = true then 1 else 0)) : mv_B (ps_ua s 1146 i (x3 &&& 1)) ((m, b, nt, none) :: S) := by
  subst hi
  obtain ⟨b1, b2⟩ := h
  have hx2 : (x3 &&& 1).toInt = (if nt = true then 1 else 0) := by
    cases nt with
    | true => rw [show x3 = 1 from Int32.toInt_inj.mp hx]; decide
    | false => rw [show x3 = 0 from Int32.toInt_inj.mp hx]; decide
  refine ⟨b1, fun j f hj => ?_⟩
  show mv_f _ (S.length + 1 - 1 - j) f
  cases j with
  | zero =>
    have hj : some (m, b, nt, none) = some f := hj
    cases hj
    have g := b2 0 _ rfl
    rw [List.length_cons] at g
    rw [show S.length + 1 - 1 - 0 = S.length from by omega] at g ⊢
    obtain ⟨g1, g2, g3, g4⟩ := g
    refine ⟨g1, g2, ?_, g4⟩
    rw [ps_a_ua, if_pos ⟨rfl, rfl⟩]
    exact hx2
  | succ j =>
    have hj : S[j]? = some f := hj
    have hl := (List.getElem?_eq_some_iff.mp hj).1
    have g := b2 (j + 1) f hj
    rw [List.length_cons] at g
    obtain ⟨g1, g2, g3, g4⟩ := g
    refine ⟨g1, g2, ?_, g4⟩
    rw [ps_a_ua, if_neg (by omega)]
    exact g3
