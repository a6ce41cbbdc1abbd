set_option maxRecDepth 100000
theorem fm_225 {n c : Nat} {L : List Nat} {x1 : Int32} {s : ps_S} {R : ps_S → Prop} (M : mk_M s L) (hx : x1.toInt = c) (hl : L.length < 100000) (k : ∀ s', mk_M s' (L ++ [c]) → kq [1149] [34] s s' → R s') : pl_Cl n 225 [.ref 1131, .int x1] s (ps_rV R) := by
  cases n with
  | zero => exact pl_At_0
  | succ n =>
  show pl_At (n + 1) 225 0 [(0, .ref 1131), (1, .int x1)] [] s (ps_rV R)
  have c260 : (260 : Int32).toInt = 260 := by decide
  have hlen : (L ++ [c]).length = L.length + 1 := List.length_append
  have m1 := M.1
  refine pl_225_0 ⟨fun z => ?_, fun z => ?_⟩
  · have z := xle z
    refine k _ ⟨?_, fun q d hq hd => ?_⟩ (kqi kq_refl rfl)
    · rw [hlen, ps_i_ui, if_pos ⟨rfl, rfl⟩]
      exact xj1 M.1 (by omega)
    · show (ps_a s 1149 q).toInt = d
      refine M.2 q d hq ?_
      rw [List.getElem?_append_left (by omega)] at hd
      exact hd
  · have z := xlt z
    intro b
    rw [xtn M.1]
    refine k _ ⟨?_, fun q d hq hd => ?_⟩ (kqi (kqa kq_refl rfl) rfl)
    · rw [hlen, ps_i_ui, if_pos ⟨rfl, rfl⟩]
      exact xj1 M.1 (by omega)
    · show (ps_a (ps_ua s 1149 L.length x1) 1149 q).toInt = d
      rw [ps_a_ua]
      rcases Nat.lt_or_ge q L.length with y | y
      · rw [if_neg (by omega)]
        rw [List.getElem?_append_left y] at hd
        exact M.2 q d hq hd
      · have := (List.getElem?_eq_some_iff.mp hd).1
        have e : q = L.length := by omega
        rw [if_pos ⟨rfl, e⟩]
        rw [e, List.getElem?_append_right (Nat.le_refl _), Nat.sub_self] at hd
        cases hd
        exact hx
