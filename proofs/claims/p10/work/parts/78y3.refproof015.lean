set_option maxRecDepth 100000
section
variable {T : Nat → Nat} {N : Nat} {h : tx_H} {s0 s : ps_S} {b i : Nat} {P : List tp_P} {c : tp_P} {fr : List (List Nat)} {q : Nat} {C0 : pv_C} {R : ps_S → Prop}
/-- an X of a step -/
theorem fm_208p {n : Nat} {R : Int32 → ps_S → Prop} (L : rv_L s b T N h fr q) (k1 : ((tx_tok T N q).1 = 2 ∧ tx_at (h.1.1.map Prod.fst) (tx_tok T N q).2.2.2.1 = none ∧ tx_at (h.1.2.map Prod.fst) (tx_tok T N q).2.2.2.1 = none) → R 1 s) (k0 : ¬ ((tx_tok T N q).1 = 2 ∧ tx_at (h.1.1.map Prod.fst) (tx_tok T N q).2.2.2.1 = none ∧ tx_at (h.1.2.map Prod.fst) (tx_tok T N q).2.2.2.1 = none) → R 0 s) : pl_Cl n 208 [.ref 1131] s (ps_rI R) := by
  cases n with
  | zero => exact pl_At_0
  | succ n =>
  show pl_At (n + 1) 208 0 [(0, .ref 1131)] [] s (ps_rI R)
  obtain ⟨⟨hrb, h22, hH, hp, hK⟩, -⟩ := L
  have h9 := hK.1
  refine pl_208_0 ⟨fun h5 => ?_, fun h5 => ?_⟩
  · have h5 : (ps_i s 1131 9).toInt ≠ (2 : Int) := xne h5
    exact k0 (fun z => by have := z.1; omega)
  · have h5 : (ps_i s 1131 9).toInt = (2 : Int) := xeq h5
    have h2 : (tx_tok T N q).1 = 2 := by omega
    refine fm_206 (E := (h.1, false)) hrb h22 hH.1 hp hK (fun v9 q9 => ⟨fun h12 => ?_, fun h12 => ?_⟩)
    · have h12 : (0 : Int) ≤ v9.toInt := xle h12
      refine k0 (fun z => ?_)
      have e := (tx_opt_n q9).mpr (by rw [if_pos z.1]; exact z.2.1)
      omega
    · have h12 : v9.toInt < (0 : Int) := xlt h12
      refine fm_207 (E := (h.1, false)) hrb h22 hH.1 hp hK (fun v16 q16 => ⟨fun h19 => ?_, fun h19 => ?_⟩)
      · have h19 : (0 : Int) ≤ v16.toInt := xle h19
        refine k0 (fun z => ?_)
        have e := (tx_opt_n q16).mpr (by rw [if_pos z.1]; exact z.2.2)
        omega
      · have h19 : v16.toInt < (0 : Int) := xlt h19
        have a := (tx_opt_n q9).mp (by omega)
        have b := (tx_opt_n q16).mp (by omega)
        rw [if_pos h2] at a b
        exact k1 ⟨h2, a, b⟩

end
