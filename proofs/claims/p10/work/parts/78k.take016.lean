set_option maxRecDepth 100000
section
variable {p th : Nat} {h : tx_H} {Θ : List tq_H} {L : List tp_P} {s0 : ps_S} {R : ps_S → Prop}
theorem fs_34 {n : Nat} (hp : p = 50 ∨ p = 460) (hth : th = 2 ∨ th = 26) (hT : tq_GT h.1 Θ) (hwt : WFt h) (hL : L.length ≤ 40) (hG : ∀ (k : Nat) (st : tp_P), L[k]? = some st → tp_G h.1 h.2.length st) (H : cv_H s0 th h) (hS : cSh s0 870 Θ) (W12 : cv_W s0 (p + 12) []) (cW : cpW s0 p L 0) (e7 : (ps_i s0 p 7).toInt = L.length) (e8 : (ps_i s0 p 8).toInt = 0) (e9 : ps_i s0 p 9 = 0) (k : ∀ s', (∃ D c, tq_run h Θ L [] = (D, c) ∧ tq_GD h.1 D ∧ cpP s' p D c ∧ cfr (CPF p) s0 s') → R s') : pl_Cl n 34 [.ref p, .ref th, .ref 870] s0 (ps_rV R) := by
  cases n with
  | zero => exact pl_At_0
  | succ n =>
  show pl_At (n + 1) 34 0 [(0, .ref p), (1, .ref th), (2, .ref 870)] [] s0 (ps_rV R)
  have h8 := H.2.2.1
  have F : cfr (fun q => q = p) s0 (ps_ur s0 p 6 th) := cfr_r cfr_refl rfl
  refine pl_34_0 (pl_nk_i (fun _ => ?_))
  refine fs_34_7 (th := th) hp hth hT hwt hL hG (fun s' D c a b d e => k s' ⟨D, c, a, b, d, e⟩) n (D := []) rfl (Nat.zero_le _) rfl (fun k R hk => by cases hk) (cv_H_cfr H F (fun q a b => by omega)) ?_ (cSh_cfr hS F (fun q a b => by omega)) ⟨Nat.zero_le _, fun k R hk => by cases hk⟩ (cv_W_cfr W12 F (by omega) (by omega)) cW e7 e8 (fun _ => e9) (cfr_mono F (fun q z => Or.inl z))
  rw [ps_r_ur, if_pos ⟨rfl, rfl⟩]

end
