set_option maxRecDepth 100000
section
variable {p th n1 n2 n3 ax x : Nat} {tt f : List Nat} {h : tx_H} {Θ : List tq_H} {D : List tq_R} {s : ps_S} {R : Int32 → ps_S → Prop}
theorem fs_43_r11 {n : Nat} {y2 : Int32} (hy : y2.toInt = D.length) (hp : p = 50 ∨ p = 460) (hi : D.length < 40) (X : cpX s p th h Θ D ((11, n1, n2, n3), (ax, x), tt, f)) (hD : tq_GD h.1 D) (hG : tp_G h.1 h.2.length ((11, n1, n2, n3), (ax, x), tt, f)) (B : cpB s p (stc p D.length)) (k : ∀ v s', cpK s p h Θ D ((11, n1, n2, n3), (ax, x), tt, f) v s' → R v s') : pl_Cl n 43 [.ref p, .ref (stc p D.length), .int y2, .ref 870] s (ps_rI R) := by
  cases n with
  | zero => exact pl_At_0
  | succ n =>
  show pl_At (n + 1) 43 0 [(0, .ref p), (1, .ref (stc p D.length)), (2, .int y2), (3, .ref 870)] [] s (ps_rI R)
  obtain ⟨⟨x1, x2', x3⟩, x4, x5, x6, x7⟩ := id X
  have hN := cpN_of x6
  obtain ⟨t0, t1, t2, t3, t4, t5, t6, t7⟩ := x6
  have hl := stc_lt hp hi
  obtain ⟨cc1, cc4, cc5, cc6, cc8⟩ := stc_c hp hi
  obtain ⟨rr2, rr4, rr6⟩ := stc_row hp hi
  have hA := arh_k x1.1.2.2.1 x1.1.2.2.2.1
  have er : (ps_i s (stc p D.length) 0).toInt = (11 : Int) := t0
  have W := t7 (Or.inl rfl)
  obtain ⟨b1, b2, b3, b4, b5⟩ := B
  refine pl_43_0 (pl_nk_i (fun _ => ?_))
  refine ⟨fun z => absurd (show (ps_i s (stc p D.length) 0).toInt = (10 : Int) from xeq z) (by omega), fun _ => ?_⟩
  refine ⟨fun _ => ?_, fun z => absurd (show (ps_i s (stc p D.length) 0).toInt = (11 : Int) from er) (xne z)⟩
  refine pl_nk_i (fun _ => pl_nk_i (fun _ => ?_))
  rw [cc6, cc5]
  refine fs_95 rr6 rr4 (by omega) W (fun s2 W2 F2 => ?_)
  have f0 := F2 (stc p D.length) (by unfold C2; omega)
  have e8 : (ps_i s2 (stc p D.length) 8).toInt = (0 : Nat) := by rw [f0.1]; exact b2
  refine fs_123 (m := 0) (stc_is hp hi) hl.2.1 e8 (fun _ => ?_) (fun z => absurd z (by decide))
  have F3 : cfr (fun q => q = stc p D.length ∨ q = stc p D.length + 8) s2 (ps_ui (ps_ua s2 (stc p D.length + 8) 0 y2) (stc p D.length) 8 (ps_i s2 (stc p D.length) 8 + 1)) := cfr_i (cfr_a cfr_refl (Or.inr rfl)) (Or.inl rfl)
  refine k _ _ ⟨rfl, fun _ => ⟨CW_cfr (CW_of W2) F3 (by omega) (by omega), ⟨?_, ?_, ?_⟩, ⟨?_, ?_⟩, fun z => absurd rfl z, fun _ => ⟨?_, ?_, ?_⟩, cpN_eq hN ?_ ?_⟩, cfr_tr (cfr_mono F2 C2_CTO) (cfr_mono F3 (fun q z => Or.inl (by omega)))⟩
  · exact CW_cfr (CW_cfr (b1 0 (by decide)) F2 (by unfold C2 otc; omega) (by unfold C2 otc; omega)) F3 (by unfold otc; omega) (by unfold otc; omega)
  · exact CW_cfr (CW_cfr (b1 1 (by decide)) F2 (by unfold C2 otc; omega) (by unfold C2 otc; omega)) F3 (by unfold otc; omega) (by unfold otc; omega)
  · exact CW_cfr (CW_cfr (b1 2 (by decide)) F2 (by unfold C2 otc; omega) (by unfold C2 otc; omega)) F3 (by unfold otc; omega) (by unfold otc; omega)
  · rw [ps_i_ui, if_neg (by omega)]
    show ps_i s2 _ 10 = 0
    rw [f0.1]
    exact b4
  · rw [ps_i_ui, if_neg (by omega)]
    show ps_i s2 _ 11 = 0
    rw [f0.1]
    exact b5
  · rw [ps_i_ui, if_pos ⟨rfl, rfl⟩]
    exact xj1 e8 (by decide)
  · rw [ps_i_ui, if_neg (by omega)]
    show ps_i s2 _ 9 = 0
    rw [f0.1]
    exact b3
  · show (ps_a (ps_ua s2 (stc p D.length + 8) 0 y2) (stc p D.length + 8) 0).toInt = _
    rw [ps_a_ua, if_pos ⟨rfl, rfl⟩]
    exact hy
  · rw [ps_i_ui, if_neg (by omega)]
    show ps_i s2 _ 0 = _
    rw [f0.1]
  · rw [(F3 (stc p D.length + 1) (by omega)).2.2.2.1]
    exact (F2 (stc p D.length + 1) (by unfold C2; omega)).2.2.2.1


end
