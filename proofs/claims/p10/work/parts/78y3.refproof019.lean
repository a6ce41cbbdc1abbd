set_option maxRecDepth 100000
section
variable {T : Nat → Nat} {N : Nat} {h : tx_H} {s0 s : ps_S} {b i : Nat} {P : List tp_P} {c : tp_P} {fr : List (List Nat)} {q : Nat} {C0 : pv_C} {R : ps_S → Prop}
theorem rq5_kq {A F : List Nat} {s s' : ps_S} {i : Nat} {c : tp_P} (M : rq5 s i c) (K : kq A F s s') (hA : [1152, 1153, 1154, 1155].all (fun q => !A.contains q) = true) : rq5 s' i c := by
  rw [List.all_eq_true] at hA
  have f : ∀ q, q ∈ [1152, 1153, 1154, 1155] → A.contains q = false := fun q hq => by
    have := hA q hq
    rw [Bool.not_eq_true'] at this
    exact this
  obtain ⟨m1, m2, m3⟩ := M
  have h33 := tp_nn_3 (r := c.1.1)
  refine ⟨by rw [kq_a K 1152 (f _ (by decide))]; exact m1, fun m hm => ?_, fun z => by rw [kq_a K 1153 (f _ (by decide))]; exact m3 z⟩
  rcases (show m = 0 ∨ m = 1 ∨ m = 2 by omega) with rfl | rfl | rfl
  · rw [kq_a K (1153 + 0) (f _ (by decide))]; exact m2 0 hm
  · rw [kq_a K (1153 + 1) (f _ (by decide))]; exact m2 1 hm
  · rw [kq_a K (1153 + 2) (f _ (by decide))]; exact m2 2 hm

end
