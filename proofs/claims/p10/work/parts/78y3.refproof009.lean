set_option maxRecDepth 100000
theorem rv_L_adv {s s' : ps_S} {b : Nat} {T : Nat → Nat} {N p q : Nat} {h : tx_H} {fr : List (List Nat)} (L : rv_L s b T N h fr p) (hq : q ≤ N) (A : mv_A T N q s s') : rv_L s' b T N h fr q := by
  obtain ⟨⟨l1, l2, l3, -, -⟩, l6, l7, l8⟩ := L
  obtain ⟨K, k⟩ := A
  exact ⟨⟨l1, by rw [kq_i K 22 (by decide)]; exact l2, mv_H_kq l3 K (by decide), hq, k⟩, mv_T_kq l6 K (by decide) (by decide), mv_P_kq l7 K (by decide) (by decide), mv_G_kq l8 K (by decide) (by decide)⟩

theorem rv_L_q {A F : List Nat} {s s' : ps_S} {b : Nat} {T : Nat → Nat} {N q : Nat} {h : tx_H} {fr : List (List Nat)} (L : rv_L s b T N h fr q) (K : kq A F s s') (hA : A.all (fun a => [1152, 1153, 1154, 1155, 1156].contains a) = true) (hF : F.all (fun a => [42].contains a) = true) : rv_L s' b T N h fr q := by
  have K2 : kq [1152, 1153, 1154, 1155, 1156] [42] s s' := kqt kq_refl K hA hF
  obtain ⟨⟨l1, l2, l3, l4, l5⟩, l6, l7, l8⟩ := L
  exact ⟨⟨l1, by rw [kq_i K2 22 (by decide)]; exact l2, mv_H_kq l3 K2 (by decide), l4, mv_K_kq l5 K2 (by decide)⟩, mv_T_kq l6 K2 (by decide) (by decide), mv_P_kq l7 K2 (by decide) (by decide), mv_G_kq l8 K2 (by decide) (by decide)⟩

/-- what reading the i-th step may change -/
def KRd (i : Nat) (s0 s : ps_S) : Prop := kq [1134, 1143, 1144, 1145, 1146, 1147, 1148, 1152, 1153, 1154, 1155, 1156] [5, 6, 7, 8, 9, 10, 11, 23, 29, 30, 31, 32, 42] s0 s ∧ (∀ q, (q < 22468 + 41 * i ∨ 22468 + 41 * i + 41 ≤ q) → (q < 24108 + 41 * i ∨ 24108 + 41 * i + 41 ≤ q) → ps_a s 1134 q = ps_a s0 1134 q) ∧ ∀ j, j ≠ i → ps_a s 1152 j = ps_a s0 1152 j ∧ ps_a s 1153 j = ps_a s0 1153 j ∧ ps_a s 1154 j = ps_a s0 1154 j ∧ ps_a s 1155 j = ps_a s0 1155 j ∧ ps_a s 1156 j = ps_a s0 1156 j

theorem KRd_refl {i : Nat} {s : ps_S} : KRd i s s := ⟨kq_refl, fun _ _ _ => rfl, fun _ _ => ⟨rfl, rfl, rfl, rfl, rfl⟩⟩

theorem KRd_q {i : Nat} {A F : List Nat} {s0 s s' : ps_S} (K : KRd i s0 s) (q : kq A F s s') (hA : A.all (fun a => [1143, 1144, 1145, 1146, 1147, 1148].contains a) = true) (hF : F.all (fun a => [5, 6, 7, 8, 9, 10, 11, 23, 29, 30, 31, 32, 42].contains a) = true) : KRd i s0 s' := by
  have q2 : kq [1143, 1144, 1145, 1146, 1147, 1148] [5, 6, 7, 8, 9, 10, 11, 23, 29, 30, 31, 32, 42] s s' := kqt kq_refl q hA hF
  exact ⟨kqt K.1 q2 (by decide) (by decide), fun p a b => by rw [kq_a q2 1134 (by decide)]; exact K.2.1 p a b, fun j hj => by
    rw [kq_a q2 1152 (by decide), kq_a q2 1153 (by decide), kq_a q2 1154 (by decide), kq_a q2 1155 (by decide), kq_a q2 1156 (by decide)]
    exact K.2.2 j hj⟩
