set_option maxRecDepth 100000
section
variable {p th n1 n2 n3 ax x : Nat} {tt f : List Nat} {h : tx_H} {Θ : List tq_H} {D : List tq_R} {s : ps_S} {R : Int32 → ps_S → Prop}
theorem fs_53_r23 {n : Nat} (hp : p = 50 ∨ p = 460) (hi : D.length < 40) (X : cpX s p th h Θ D ((23, n1, n2, n3), (ax, x), tt, f)) (hD : tq_GD h.1 D) (hG : tp_G h.1 h.2.length ((23, n1, n2, n3), (ax, x), tt, f)) (B : cpB s p (stc p D.length)) (h1 : n1 < D.length) (k : ∀ v s', cpK s p h Θ D ((23, n1, n2, n3), (ax, x), tt, f) v s' → R v s') : pl_Cl n 53 [.ref p, .ref (stc p D.length), .ref (stc p n1 + 6)] s (ps_rI R) := by
  cases n with
  | zero => exact pl_At_0
  | succ n =>
  show pl_At (n + 1) 53 0 [(0, .ref p), (1, .ref (stc p D.length)), (2, .ref (stc p n1 + 6))] [] s (ps_rI R)
  obtain ⟨⟨x1, x2', x3⟩, x4, x5, x6, x7⟩ := id X
  have hN := cpN_of x6
  obtain ⟨t0, t1, t2, t3, t4, t5, t6, t7⟩ := x6
  have hl := stc_lt hp hi
  obtain ⟨cc1, cc4, cc5, cc6, cc8⟩ := stc_c hp hi
  obtain ⟨rr2, rr4, rr6⟩ := stc_row hp hi
  have hA := arh_k x1.1.2.2.1 x1.1.2.2.2.1
  have er : (ps_i s (stc p D.length) 0).toInt = (23 : Int) := t0
  obtain ⟨Ra, aa, ab, ac, ad, ae⟩ := prem_1 X hD h1
  have Wa : cv_W s (stc p n1 + 6) (tq_r D n1) := by rw [ab]; exact ad.1
  have r5a := (stc_row hp (i := n1) (by omega)).2.2
  have la : p + 44 ≤ stc p n1 ∧ stc p n1 + 9 ≤ stc p D.length := by unfold stc; omega
  have Ga : ws (sg h.1) (tq_r D n1) [true] := by rw [ab]; exact ae.1.1
  obtain ⟨-, -, ⟨-, -, -, c3', c4', c5'⟩, -, i12, i14, i6, -⟩ := prf hp
  have h40 := Wa.2.2.1
  have Wt := t6 (of_decide_eq_true rfl)
  have W := t7 (of_decide_eq_true rfl)
  have Gf := (hG.2.2.1 (of_decide_eq_true rfl)).1
  refine pl_53_0 (pl_nk_i (fun _ => ?_))
  rw [cc5]
  refine fs_92h (c := 5) rr4 W (fun v1 hh q1 => ⟨fun _ => ?_, fun z => absurd (show v1 = 5 from Int32.toInt_inj.mp q1) z⟩) (fun v1 hh q1 => ⟨fun z => absurd (show v1.toInt = ((5 : Nat) : Int) from xeq z) q1, fun _ => ?_⟩)
  · refine pl_nk_i (fun _ => pl_nk_i (fun _ => pl_nk_i (fun _ => ?_)))
    rw [c4', cc4, cc6]
    refine fs_52 hp x3 x2' x1.1 i14 rr4 rr2 (by unfold apart; omega) (by unfold apart; omega) (by omega) W Gf Wt (fun s2 C F2 => pl_nk_i (fun _ => ?_))
    have F2' : cfr (CTO p D.length) s s2 := cfr_mono F2 (fun q z => by unfold CPI C2 CSh at z; unfold CTO; omega)
    have Wa2 := cv_W_cfr Wa F2 (by unfold CPI C2 CSh; omega) (by unfold CPI C2 CSh; omega)
    refine fs_98 i14 r5a C (CW_of Wa2) (Or.inr Wa2.2.2.1) (fun e => ⟨fun _ => ?_, fun z => absurd z (by decide)⟩) (fun e => ⟨fun z => absurd rfl z, fun _ => ?_⟩)
    · have hm : tq_mk h Θ D ((23, n1, n2, n3), (ax, x), tt, f) = (0, f, [], [], []) := by rw [tq_mk_23, if_pos ⟨hh, e⟩]
      refine pl_nk_i (fun _ => pl_nk_i (fun _ => ?_))
      have W2 := cv_W_cfr W F2 (by unfold CPI C2 CSh; omega) (by unfold CPI C2 CSh; omega)
      refine fs_95 rr6 rr4 (by omega) W2 (fun s4 W4 F4 => ?_)
      have FF : cfr (fun q => CPI p (p + 14) q ∨ C2 (stc p D.length + 6) q) s s4 := cfr_tr (cfr_mono F2 (fun q z => Or.inl z)) (cfr_mono F4 (fun q z => Or.inr z))
      exact k _ _ ⟨by rw [hm]; rfl, fun _ => cpM_0 hm (of_decide_eq_true rfl) (of_decide_eq_true rfl) (of_decide_eq_true rfl) B hN FF (by unfold CPI CSh C2; omega) (by unfold CPI CSh C2; omega) (fun q a b => by unfold CPI CSh C2; omega) (CW_of W4), cfr_mono FF (fun q z => by unfold CPI CSh C2 at z; unfold CTO; omega)⟩
    · have hm : tq_mk h Θ D ((23, n1, n2, n3), (ax, x), tt, f) = (4, [], [], [], []) := by rw [tq_mk_23, if_neg (fun y => e y.2)]
      exact k _ _ ⟨by rw [hm]; rfl, fun z => absurd z (by rw [hm]; exact of_decide_eq_true rfl), F2'⟩
  · have hm : tq_mk h Θ D ((23, n1, n2, n3), (ax, x), tt, f) = (4, [], [], [], []) := by rw [tq_mk_23, if_neg (fun y => hh y.1)]
    exact k _ _ ⟨by rw [hm]; rfl, fun z => absurd z (by rw [hm]; exact of_decide_eq_true rfl), cfr_refl⟩


end
