set_option maxRecDepth 100000
section
variable {b : Nat} {h : tx_H} {l : List Nat} {s0 : ps_S} {R : Int32 → ps_S → Prop}
theorem fm_287 {n : Nat} (hb : b < 2) (h21 : (ps_i s0 1131 21).toInt = b) (H0 : mv_H s0 b h) (hw : WFt h) (hwl : ws (sg h.1) l [false]) (W0 : mv_W s0 25789 l) (k1 : ∀ s', (∃ l', rw_s h l l' ∧ mk_M s' l' ∧ KR s0 s') → R 1 s') (k0 : ∀ s', (rw_e h l ∧ KR s0 s') → R 0 s') : pl_Cl n 287 [.ref 1131] s0 (ps_rI R) := by
  cases n with
  | zero => exact pl_At_0
  | succ n =>
  show pl_At (n + 1) 287 0 [(0, .ref 1131)] [] s0 (ps_rI R)
  exact pl_287_0 ((fm_287_all hb h21 H0 hw hwl W0 (fun s' l' a c d => k1 s' ⟨l', a, c, d⟩) (fun s' a c => k0 s' ⟨a, c⟩) n).1 (p := 0) rfl (Nat.zero_le _) kq_refl (fun p' hp' => absurd hp' (Nat.not_lt_zero _)))

end
