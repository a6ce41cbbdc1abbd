set_option maxRecDepth 100000
section
variable {p th : Nat} {h : tx_H} {Θ : List tq_H} {D : List tq_R} {st : tp_P} {s0 : ps_S} {R : Int32 → ps_S → Prop}
theorem fs_35 {n : Nat} {x1 : Int32} (hp : p = 50 ∨ p = 460) (hi : D.length < 40) (X : cpX s0 p th h Θ D st) (B0 : (ps_i s0 (stc p D.length) 8).toInt = 0 ∧ ps_i s0 (stc p D.length) 9 = 0 ∧ ps_i s0 (stc p D.length) 10 = 0 ∧ ps_i s0 (stc p D.length) 11 = 0) (hD : tq_GD h.1 D) (hT : tq_GT h.1 Θ) (hwt : WFt h) (hG : tp_G h.1 h.2.length st) (hx1 : x1.toInt = D.length) (k : ∀ (v : Int32) s', (v.toInt = tq_cs h Θ D st ∧ (tq_cs h Θ D st = 0 → cpD s' p (D ++ [tq_res h Θ D st])) ∧ cfr (CTO p D.length) s0 s') → R v s') : pl_Cl n 35 [.ref p, .int x1, .ref 870] s0 (ps_rI R) := by
  cases n with
  | zero => exact pl_At_0
  | succ n =>
  show pl_At (n + 1) 35 0 [(0, .ref p), (1, .int x1), (2, .ref 870)] [] s0 (ps_rI R)
  refine pl_35_0 (fs_33 hp hx1 hi ?_)
  refine fs_36 hp hi X.2.2.2.1 X.2.1 hG.1 hx1 (fun y => ⟨fun _ => ?_, fun z => absurd z (by decide)⟩) (fun y => ⟨fun z => absurd rfl z, fun _ => ?_⟩)
  · exact fs_35_21 hp hi X B0 hD hT hwt hG y hx1 k n (m := 0) rfl (Nat.zero_le _) (fun j hj => absurd hj (Nat.not_lt_zero _)) cfr_refl
  · have hc := tq_cs_1 (h := h) y
    exact k _ _ ⟨by rw [hc]; rfl, fun e => absurd e (by rw [hc]; decide), cfr_refl⟩

end
