set_option maxRecDepth 100000
section
variable {b : Nat} {h : tx_H} {l0 : List Nat} {s0 : ps_S} {R : Int32 → ps_S → Prop}
theorem mv_H_po {s s' : ps_S} (hb : b < 2) (H : mv_H s b h) (K : KW8 s s') : mv_H s' b h := by
  have h8 := H.2.2.1
  refine mv_H_V hb H (fun r hr => kq_a K.1 r ?_) (fun r hr => kq_b K.1 r ?_) (fun k h1 h2 => K.2 k (by omega))
  · exact (show ∀ r, r ∈ [1135, 1136, 1137, 1138, 1139] → [1134, 1149, 1150, 1151, 1167, 1168].contains r = false by decide) r hr
  · exact (show ∀ r, r ∈ [1140, 1141, 1142] → [1134, 1149, 1150, 1151, 1167, 1168].contains r = false by decide) r hr

theorem KW8_q {A F : List Nat} {s s' : ps_S} (K : KW8 s0 s) (K' : kq A F s s') (hA : A.all (fun a => [1149, 1150, 1151, 1167, 1168].contains a) = true) (hF : F.all (fun a => [34, 63, 64, 65].contains a) = true) : KW8 s0 s' := by
  have hA2 : A.all (fun a => [1134, 1149, 1150, 1151, 1167, 1168].contains a) = true := by
    rw [List.all_eq_true] at hA ⊢
    intro x hx
    have := hA x hx
    rw [List.contains_iff_mem] at this ⊢
    exact List.mem_cons_of_mem _ this
  have h34 : A.contains 1134 = false := by
    cases e : A.contains 1134 with
    | false => rfl
    | true =>
      rw [List.all_eq_true] at hA
      exact absurd (hA 1134 (List.contains_iff_mem.mp e)) (by decide)
  exact ⟨kqt K.1 K' hA2 hF, fun q hq => by rw [kq_a K' 1134 h34]; exact K.2 q hq⟩

end
