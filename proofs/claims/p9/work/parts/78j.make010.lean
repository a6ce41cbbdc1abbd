set_option maxRecDepth 100000
section
variable {p th n1 n2 n3 ax x : Nat} {tt f : List Nat} {h : tx_H} {Θ : List tq_H} {D : List tq_R} {s : ps_S} {R : Int32 → ps_S → Prop}
theorem fs_44_r20 {n : Nat} (hp : p = 50 ∨ p = 460) (hi : D.length < 40) (X : cpX s p th h Θ D ((20, n1, n2, n3), (ax, x), tt, f)) (hD : tq_GD h.1 D) (hG : tp_G h.1 h.2.length ((20, n1, n2, n3), (ax, x), tt, f)) (B : cpB s p (stc p D.length)) (h1 : n1 < D.length) (k : ∀ v s', cpK s p h Θ D ((20, n1, n2, n3), (ax, x), tt, f) v s' → R v s') : pl_Cl n 44 [.ref p, .ref (stc p D.length), .ref (stc p n1 + 6)] s (ps_rI R) := by
  cases n with
  | zero => exact pl_At_0
  | succ n =>
  show pl_At (n + 1) 44 0 [(0, .ref p), (1, .ref (stc p D.length)), (2, .ref (stc p n1 + 6))] [] s (ps_rI R)
  obtain ⟨⟨x1, x2', x3⟩, x4, x5, x6, x7⟩ := id X
  have hN := cpN_of x6
  obtain ⟨t0, t1, t2, t3, t4, t5, t6, t7⟩ := x6
  have hl := stc_lt hp hi
  obtain ⟨cc1, cc4, cc5, cc6, cc8⟩ := stc_c hp hi
  obtain ⟨rr2, rr4, rr6⟩ := stc_row hp hi
  have hA := arh_k x1.1.2.2.1 x1.1.2.2.2.1
  have er : (ps_i s (stc p D.length) 0).toInt = (20 : Int) := t0
  obtain ⟨Ra, aa, ab, ac, ad, ae⟩ := prem_1 X hD h1
  have Wa : cv_W s (stc p n1 + 6) (tq_r D n1) := by rw [ab]; exact ad.1
  have r5a := (stc_row hp (i := n1) (by omega)).2.2
  have la : p + 44 ≤ stc p n1 ∧ stc p n1 + 9 ≤ stc p D.length := by unfold stc; omega
  have Ga : ws (sg h.1) (tq_r D n1) [true] := by rw [ab]; exact ae.1.1
  have W := t7 (of_decide_eq_true rfl)
  obtain ⟨b1, b2, b3, b4, b5⟩ := B
  refine pl_44_0 (pl_nk_i (fun _ => ?_))
  refine ⟨fun z => absurd (show (ps_i s (stc p D.length) 0).toInt = (13 : Int) from xeq z) (by omega), fun _ => ?_⟩
  refine ⟨fun z => absurd (show (ps_i s (stc p D.length) 0).toInt = (14 : Int) from xeq z) (by omega), fun _ => ?_⟩
  refine ⟨fun z => absurd (show (ps_i s (stc p D.length) 0).toInt = (15 : Int) from xeq z) (by omega), fun _ => ?_⟩
  refine ⟨fun z => absurd (show (ps_i s (stc p D.length) 0).toInt = (16 : Int) from xeq z) (by omega), fun _ => ?_⟩
  refine ⟨fun z => absurd (show (ps_i s (stc p D.length) 0).toInt = (17 : Int) from xeq z) (by omega), fun _ => ?_⟩
  refine pl_nk_i (fun _ => pl_nk_i (fun _ => ?_))
  rw [cc6, cc5]
  refine fs_97 rr6 rr4 r5a (by omega) (by omega) W Wa rfl (fun s2 W2 F2 => ?_)
  refine fs_38 (i := 0) hp rfl (by decide) (pl_nk_i (fun _ => ?_))
  have W3 := cv_W_cfr W F2 (by unfold C2; omega) (by unfold C2; omega)
  refine fs_95 ((prf hp).2.1 0 (by decide)).2 rr4 (by unfold otc; omega) W3 (fun s3 W4 F3 => ?_)
  have f0 := F2 (stc p D.length) (by unfold C2; omega)
  have g0 := F3 (stc p D.length) (by unfold C2 otc; omega)
  have ou : ∀ k, 1 ≤ k → k < 3 → CW s3 (otc p k) [] := fun k h1 hk => CW_cfr (CW_cfr (b1 k hk) F2 (by unfold C2 otc; omega) (by unfold C2 otc; omega)) F3 (by unfold C2 otc; omega) (by unfold C2 otc; omega)
  refine k _ _ ⟨rfl, fun _ => ⟨CW_cfr W2 F3 (by unfold C2 otc; omega) (by unfold C2 otc; omega), ⟨CW_of W4, ou 1 (by decide) (by decide), ou 2 (by decide) (by decide)⟩, ⟨by rw [g0.1, f0.1]; exact b4, by rw [g0.1, f0.1]; exact b5⟩, fun _ => PA_0 (by rw [g0.1, f0.1]; exact b2) (by rw [g0.1, f0.1]; exact b3), fun z => absurd z (of_decide_eq_true rfl), cpN_eq hN (by rw [g0.1, f0.1]) (((F3 (stc p D.length + 1) (by unfold C2 otc; omega)).2.2.2.1).trans (F2 (stc p D.length + 1) (by unfold C2; omega)).2.2.2.1)⟩, cfr_tr (cfr_mono F2 C2_CTO) (cfr_mono F3 (C2_out (by decide)))⟩


end
