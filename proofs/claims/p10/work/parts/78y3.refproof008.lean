set_option maxRecDepth 100000
theorem kd_c {r : Nat} (h : tp_ok r) : (kd r = 12 ↔ r = 22) ∧ (kd r = 13 ↔ r = 23) ∧ (kd r = 15 ↔ r = 6) ∧ (kd r = 1 ↔ r = 10) ∧ (kd r = 11 ↔ r = 21) ∧ (kd r = 14 ↔ r = 24) ∧ (kd r = 0 ↔ r = 11) ∧ (kd r = 6 ↔ r = 16) ∧ (kd r = 7 ↔ r = 17) ∧ (kd r = 10 ↔ r = 20) ∧ (16 ≤ kd r ↔ (r = 25 ∨ r = 26 ∨ r = 27)) ∧ kd r ≤ 18 := by
  rcases tp_ok_c h with rfl | rfl | rfl | rfl | rfl | rfl | rfl | rfl | rfl | rfl | rfl | rfl | rfl | rfl | rfl | rfl | rfl | rfl | rfl <;> decide

theorem fm_235 {n r : Nat} {x0 : Int32} {s : ps_S} {R : Int32 → ps_S → Prop} (hx : x0.toInt = (kd r : Nat)) (ho : tp_ok r) (k1 : tp_ht r → R 1 s) (k0 : ¬ tp_ht r → R 0 s) : pl_Cl n 235 [.int x0] s (ps_rI R) := by
  cases n with
  | zero => exact pl_At_0
  | succ n =>
  show pl_At (n + 1) 235 0 [(0, .int x0)] [] s (ps_rI R)
  obtain ⟨c1, c2, c3, -⟩ := kd_c ho
  refine pl_235_0 ⟨fun w => ?_, fun w => ⟨fun w1 => ?_, fun w1 => ⟨fun w2 => ?_, fun w2 => ?_⟩⟩⟩
  · have w : x0.toInt = 12 := xeq w
    exact k1 (by unfold tp_ht; omega)
  · have w1 : x0.toInt = 13 := xeq w1
    exact k1 (by unfold tp_ht; omega)
  · have w : x0.toInt ≠ 12 := xne w
    have w1 : x0.toInt ≠ 13 := xne w1
    have w2 : x0.toInt ≠ 15 := xne w2
    exact k0 (by unfold tp_ht; omega)
  · have w2 : x0.toInt = 15 := xeq w2
    exact k1 (by unfold tp_ht; omega)

theorem fm_236 {n r : Nat} {x0 : Int32} {s : ps_S} {R : Int32 → ps_S → Prop} (hx : x0.toInt = (kd r : Nat)) (ho : tp_ok r) (k1 : tp_hf r → R 1 s) (k0 : ¬ tp_hf r → R 0 s) : pl_Cl n 236 [.int x0] s (ps_rI R) := by
  cases n with
  | zero => exact pl_At_0
  | succ n =>
  show pl_At (n + 1) 236 0 [(0, .int x0)] [] s (ps_rI R)
  obtain ⟨-, c2, -, -, -, -, c7, c8, c9, c10, c11, -⟩ := kd_c ho
  refine pl_236_0 ⟨fun w => ?_, fun w => ⟨fun w1 => ?_, fun w1 => ⟨fun w2 => ?_, fun w2 => ⟨fun w3 => ?_, fun w3 => ⟨fun w4 => ?_, fun w4 => ⟨fun w5 => ?_, fun w5 => ?_⟩⟩⟩⟩⟩⟩
  · have w : x0.toInt = 0 := xeq w
    exact k1 (by unfold tp_hf; omega)
  · have w1 : x0.toInt = 6 := xeq w1
    exact k1 (by unfold tp_hf; omega)
  · have w2 : x0.toInt = 7 := xeq w2
    exact k1 (by unfold tp_hf; omega)
  · have w3 : x0.toInt = 10 := xeq w3
    exact k1 (by unfold tp_hf; omega)
  · have w4 : x0.toInt = 13 := xeq w4
    exact k1 (by unfold tp_hf; omega)
  · have w : x0.toInt ≠ 0 := xne w
    have w1 : x0.toInt ≠ 6 := xne w1
    have w2 : x0.toInt ≠ 7 := xne w2
    have w3 : x0.toInt ≠ 10 := xne w3
    have w4 : x0.toInt ≠ 13 := xne w4
    have w5 : x0.toInt < 16 := xlt w5
    exact k0 (by unfold tp_hf; omega)
  · have w5 : 16 ≤ x0.toInt := xle w5
    exact k1 (by unfold tp_hf; omega)

/-- the reference between two tokens -/
def rv_L (s : ps_S) (b : Nat) (T : Nat → Nat) (N : Nat) (h : tx_H) (fr : List (List Nat)) (q : Nat) : Prop := rv_L0 s b T N h q ∧ mv_T s T N ∧ mv_P s fr ∧ mv_G s

theorem mv_H_5 {A F : List Nat} {s s' : ps_S} {b : Nat} {h : tx_H} (hb : b < 2) (H : mv_H s b h) (K : kq A F s s') (hA : [1135, 1136, 1137, 1138, 1139, 1140, 1141, 1142].all (fun q => !A.contains q) = true) (hV : ∀ q, 21812 ≤ q → q < 22468 → ps_a s' 1134 q = ps_a s 1134 q) : mv_H s' b h := by
  rw [List.all_eq_true] at hA
  have f : ∀ q, q ∈ [1135, 1136, 1137, 1138, 1139, 1140, 1141, 1142] → A.contains q = false := fun q hq => by
    have := hA q hq
    rw [Bool.not_eq_true'] at this
    exact this
  exact mv_H_V hb H (fun r hr => kq_a K r (f r ((show ∀ r, r ∈ [1135, 1136, 1137, 1138, 1139] → r ∈ [1135, 1136, 1137, 1138, 1139, 1140, 1141, 1142] by decide) r hr))) (fun r hr => kq_b K r (f r ((show ∀ r, r ∈ [1140, 1141, 1142] → r ∈ [1135, 1136, 1137, 1138, 1139, 1140, 1141, 1142] by decide) r hr))) hV
