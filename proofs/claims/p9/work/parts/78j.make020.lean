set_option maxRecDepth 100000
section
variable {p th n1 n2 n3 ax x : Nat} {tt f : List Nat} {h : tx_H} {Θ : List tq_H} {D : List tq_R} {s : ps_S} {R : Int32 → ps_S → Prop}
theorem fs_55_r25 {n : Nat} (hp : p = 50 ∨ p = 460) (hi : D.length < 40) (X : cpX s p th h Θ D ((25, n1, n2, n3), (ax, x), tt, f)) (hD : tq_GD h.1 D) (hG : tp_G h.1 h.2.length ((25, n1, n2, n3), (ax, x), tt, f)) (B : cpB s p (stc p D.length)) (h1 : n1 < D.length) (h2 : n2 < D.length) (k : ∀ v s', cpK s p h Θ D ((25, n1, n2, n3), (ax, x), tt, f) v s' → R v s') : pl_Cl n 55 [.ref p, .ref (stc p D.length), .ref (stc p n1 + 6), .ref (stc p n2 + 6)] s (ps_rI R) := by
  cases n with
  | zero => exact pl_At_0
  | succ n =>
  show pl_At (n + 1) 55 0 [(0, .ref p), (1, .ref (stc p D.length)), (2, .ref (stc p n1 + 6)), (3, .ref (stc p n2 + 6))] [] s (ps_rI R)
  obtain ⟨⟨x1, x2', x3⟩, x4, x5, x6, x7⟩ := id X
  have hN := cpN_of x6
  obtain ⟨t0, t1, t2, t3, t4, t5, t6, t7⟩ := x6
  have hl := stc_lt hp hi
  obtain ⟨cc1, cc4, cc5, cc6, cc8⟩ := stc_c hp hi
  obtain ⟨rr2, rr4, rr6⟩ := stc_row hp hi
  have hA := arh_k x1.1.2.2.1 x1.1.2.2.2.1
  have er : (ps_i s (stc p D.length) 0).toInt = (25 : Int) := t0
  obtain ⟨Ra, aa, ab, ac, ad, ae⟩ := prem_1 X hD h1
  have Wa : cv_W s (stc p n1 + 6) (tq_r D n1) := by rw [ab]; exact ad.1
  have r5a := (stc_row hp (i := n1) (by omega)).2.2
  have la : p + 44 ≤ stc p n1 ∧ stc p n1 + 9 ≤ stc p D.length := by unfold stc; omega
  have Ga : ws (sg h.1) (tq_r D n1) [true] := by rw [ab]; exact ae.1.1
  obtain ⟨Rb, ba, bb, bc, bd, be⟩ := prem_1 X hD h2
  have Wb : cv_W s (stc p n2 + 6) (tq_r D n2) := by rw [bb]; exact bd.1
  have r5b := (stc_row hp (i := n2) (by omega)).2.2
  have lb : p + 44 ≤ stc p n2 ∧ stc p n2 + 9 ≤ stc p D.length := by unfold stc; omega
  have Gb : ws (sg h.1) (tq_r D n2) [true] := by rw [bb]; exact be.1.1
  obtain ⟨-, -, ⟨-, -, -, c3', c4', c5'⟩, -, i12, i14, i6, -⟩ := prf hp
  have h40 := Wa.2.2.1
  have W := t7 (of_decide_eq_true rfl)
  refine pl_55_0 (fs_92h (c := 6) r5a Wa (fun v1 hh q1 => ⟨fun _ => pl_nk_i (fun _ => ?_), fun z => absurd (show v1 = 6 from Int32.toInt_inj.mp q1) z⟩) (fun v1 hh q1 => ⟨fun z => absurd (show v1.toInt = ((6 : Nat) : Int) from xeq z) q1, fun _ => ?_⟩))
  · rw [cc5, cc6]
    refine fs_56 hp x3 x2' x1.1 rr4 r5a r5b (by omega) (by omega) (by omega) W Wa Wb Ga hh (fun s2 q => ⟨fun _ => ?_, fun z => absurd z (by decide)⟩) (fun s2 q => ⟨fun z => absurd rfl z, fun _ => ?_⟩)
    · obtain ⟨e, F2⟩ := q
      have hm : tq_mk h Θ D ((25, n1, n2, n3), (ax, x), tt, f) = (0, f, [], [], []) := by rw [tq_mk_25, if_pos hh, if_pos e]
      refine pl_nk_i (fun _ => pl_nk_i (fun _ => ?_))
      have W2 := cv_W_cfr W F2 (by unfold CSh; omega) (by unfold CSh; omega)
      refine fs_95 rr6 rr4 (by omega) W2 (fun s4 W4 F4 => ?_)
      have FF : cfr (fun q => CSh (p + 16) q ∨ C2 (stc p D.length + 6) q) s s4 := cfr_tr (cfr_mono F2 (fun q z => Or.inl z)) (cfr_mono F4 (fun q z => Or.inr z))
      exact k _ _ ⟨by rw [hm]; rfl, fun _ => cpM_0 hm (of_decide_eq_true rfl) (of_decide_eq_true rfl) (of_decide_eq_true rfl) B hN FF (by unfold CSh C2; omega) (by unfold CSh C2; omega) (fun q a b => by unfold CSh C2; omega) (CW_of W4), cfr_mono FF (fun q z => z.elim (CSh_CTO q) (C2_CTO q))⟩
    · obtain ⟨e, F2⟩ := q
      have hm : tq_mk h Θ D ((25, n1, n2, n3), (ax, x), tt, f) = (4, [], [], [], []) := by rw [tq_mk_25, if_pos hh, if_neg e]
      exact k _ _ ⟨by rw [hm]; rfl, fun z => absurd z (by rw [hm]; exact of_decide_eq_true rfl), cfr_mono F2 CSh_CTO⟩
  · have hm : tq_mk h Θ D ((25, n1, n2, n3), (ax, x), tt, f) = (2, [], [], [], []) := by rw [tq_mk_25, if_neg hh]
    exact k _ _ ⟨by rw [hm]; rfl, fun z => absurd z (by rw [hm]; exact of_decide_eq_true rfl), cfr_refl⟩


end
