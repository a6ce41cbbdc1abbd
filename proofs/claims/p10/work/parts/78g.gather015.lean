set_option maxRecDepth 100000
section
variable {p i : Nat} {D : List tq_R} {A : List (List Nat)} {s : ps_S}
theorem fs_40_2 {r2 : Nat} {y : List Nat} {R : Int32 → ps_S → Prop} (hp : p = 50 ∨ p = 460) (hi : i < 40) (hD : cpD s p D) (hDi : D.length ≤ i) (hA : PA s (stc p i) D A) (h5 : ps_is r2 5 = true) (W : cv_W s r2 y) (k1 : y ∈ A → R 1 s) (k0 : ¬ y ∈ A.take 12 → R 0 s) : ∀ (n : Nat) {x3 : Int32} {m : Nat}, x3.toInt = m → (∀ j, j < m → (A.take 12)[j]? ≠ some y) → pl_At n 40 2 [(0, .ref p), (1, .ref (stc p i)), (2, .ref r2), (3, .int x3)] [] s (ps_rI R)
  | 0, _, _, _, _ => pl_At_0
  | n + 1, x3, m, hx, hj => by
    obtain ⟨a1, a2, a3, a4, a5⟩ := id hA
    refine pl_40_2 (pl_nk_i (fun _ => ⟨fun z => k0 (fun w => ?_), fun z => ?_⟩))
    · have z := xle z
      obtain ⟨j, hj2⟩ := List.mem_iff_getElem?.mp w
      have := (List.getElem?_eq_some_iff.mp hj2).1
      rw [List.length_take] at this
      exact hj j (by omega) hj2
    · have z := xlt z
      have hm : m < min A.length 12 := by omega
      obtain ⟨w, hw⟩ : ∃ w, A[m]? = some w := ⟨_, List.getElem?_eq_getElem (by omega)⟩
      obtain ⟨oo, q, e1, e2, e3⟩ := a5 m w (by omega) hw
      have hol := (List.getElem?_eq_some_iff.mp e2).1
      have ho := hD.2 oo q e2
      have hl := stc_lt hp (i := oo) (by omega)
      refine fs_122 (stc_is hp hi) (stc_lt hp hi).2.1 hx (by omega) (by rw [a1]; omega) ?_
      refine fs_33 hp e1 (by omega) (pl_nk_i (fun _ => ?_))
      rw [(stc_c hp (i := oo) (by omega)).2.2.2.1]
      refine fs_98 (stc_row hp (i := oo) (by omega)).2.2 h5 (CW_of ho.1) (CW_of W) (Or.inl ho.1.2.2.1) (fun e => ⟨fun u => absurd u (by decide), fun _ => ?_⟩) (fun e => ⟨fun _ => ?_, fun u => absurd rfl u⟩)
      · refine k1 ?_
        rw [← e, e3]
        exact List.mem_of_getElem? hw
      · refine fs_40_2 hp hi hD hDi hA h5 W k1 k0 n (xj1 hx (by omega)) (fun j hj2 => ?_)
        rcases Nat.lt_or_ge j m with u | u
        · exact hj j u
        · rw [show j = m from by omega, List.getElem?_take, if_pos (by omega), hw]
          intro e2
          cases e2
          exact e e3

end
