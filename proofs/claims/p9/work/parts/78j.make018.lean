set_option maxRecDepth 100000
section
variable {p th n1 n2 n3 ax x : Nat} {tt f : List Nat} {h : tx_H} {Θ : List tq_H} {D : List tq_R} {s : ps_S} {R : Int32 → ps_S → Prop}
theorem fs_50_r22 {n : Nat} (hp : p = 50 ∨ p = 460) (hi : D.length < 40) (X : cpX s p th h Θ D ((22, n1, n2, n3), (ax, x), tt, f)) (hD : tq_GD h.1 D) (hG : tp_G h.1 h.2.length ((22, n1, n2, n3), (ax, x), tt, f)) (B : cpB s p (stc p D.length)) (h1 : n1 < D.length) (k : ∀ v s', cpK s p h Θ D ((22, n1, n2, n3), (ax, x), tt, f) v s' → R v s') : pl_Cl n 50 [.ref p, .ref (stc p D.length), .ref (stc p n1 + 6)] s (ps_rI R) := by
  cases n with
  | zero => exact pl_At_0
  | succ n =>
  show pl_At (n + 1) 50 0 [(0, .ref p), (1, .ref (stc p D.length)), (2, .ref (stc p n1 + 6))] [] s (ps_rI R)
  obtain ⟨⟨x1, x2', x3⟩, x4, x5, x6, x7⟩ := id X
  have hN := cpN_of x6
  obtain ⟨t0, t1, t2, t3, t4, t5, t6, t7⟩ := x6
  have hl := stc_lt hp hi
  obtain ⟨cc1, cc4, cc5, cc6, cc8⟩ := stc_c hp hi
  obtain ⟨rr2, rr4, rr6⟩ := stc_row hp hi
  have hA := arh_k x1.1.2.2.1 x1.1.2.2.2.1
  have er : (ps_i s (stc p D.length) 0).toInt = (22 : Int) := t0
  obtain ⟨Ra, aa, ab, ac, ad, ae⟩ := prem_1 X hD h1
  have Wa : cv_W s (stc p n1 + 6) (tq_r D n1) := by rw [ab]; exact ad.1
  have r5a := (stc_row hp (i := n1) (by omega)).2.2
  have la : p + 44 ≤ stc p n1 ∧ stc p n1 + 9 ≤ stc p D.length := by unfold stc; omega
  have Ga : ws (sg h.1) (tq_r D n1) [true] := by rw [ab]; exact ae.1.1
  obtain ⟨-, -, ⟨-, -, -, c3', c4', c5'⟩, -, i12, i14, i6, -⟩ := prf hp
  have h40 := Wa.2.2.1
  have W := t6 (of_decide_eq_true rfl)
  refine pl_50_0 (fs_92h (c := 4) r5a Wa (fun v1 hh q1 => ⟨fun _ => ?_, fun z => absurd (show v1 = 4 from Int32.toInt_inj.mp q1) z⟩) (fun v1 hh q1 => ⟨fun z => absurd (show v1.toInt = ((4 : Nat) : Int) from xeq z) q1, fun _ => ?_⟩))
  · have hm : tq_mk h Θ D ((22, n1, n2, n3), (ax, x), tt, f) = (0, tq_in (arh h.1) (tq_r D n1) tt, [], [], []) := by rw [tq_mk_22, if_pos hh]
    refine pl_nk_i (fun _ => pl_nk_i (fun _ => ?_))
    rw [cc6, cc4]
    refine fs_52 hp x3 x2' x1.1 rr6 r5a rr2 (by unfold apart; omega) (by unfold apart; omega) (by omega) Wa Ga W (fun s2 C FF => ?_)
    exact k _ _ ⟨by rw [hm]; rfl, fun _ => cpM_0 hm (of_decide_eq_true rfl) (of_decide_eq_true rfl) (of_decide_eq_true rfl) B hN FF (by unfold CPI CSh C2; omega) (by unfold CPI CSh C2; omega) (fun q a b => by unfold CPI CSh C2; omega) C, cfr_mono FF (fun q z => z.elim (C2_CTO q) (CSh_CTO q))⟩
  · have hm : tq_mk h Θ D ((22, n1, n2, n3), (ax, x), tt, f) = (2, [], [], [], []) := by rw [tq_mk_22, if_neg hh]
    exact k _ _ ⟨by rw [hm]; rfl, fun z => absurd z (by rw [hm]; exact of_decide_eq_true rfl), cfr_refl⟩


end
