set_option maxRecDepth 100000
section
variable {p th n1 n2 n3 ax x : Nat} {tt f : List Nat} {h : tx_H} {Θ : List tq_H} {D : List tq_R} {s : ps_S} {R : Int32 → ps_S → Prop}
theorem fs_49_r21 {n : Nat} (hp : p = 50 ∨ p = 460) (hi : D.length < 40) (X : cpX s p th h Θ D ((21, n1, n2, n3), (ax, x), tt, f)) (hD : tq_GD h.1 D) (hG : tp_G h.1 h.2.length ((21, n1, n2, n3), (ax, x), tt, f)) (B : cpB s p (stc p D.length)) (h1 : n1 < D.length) (k : ∀ v s', cpK s p h Θ D ((21, n1, n2, n3), (ax, x), tt, f) v s' → R v s') : pl_Cl n 49 [.ref p, .ref (stc p D.length), .ref (stc p n1 + 6)] s (ps_rI R) := by
  cases n with
  | zero => exact pl_At_0
  | succ n =>
  show pl_At (n + 1) 49 0 [(0, .ref p), (1, .ref (stc p D.length)), (2, .ref (stc p n1 + 6))] [] s (ps_rI R)
  obtain ⟨⟨x1, x2', x3⟩, x4, x5, x6, x7⟩ := id X
  have hN := cpN_of x6
  obtain ⟨t0, t1, t2, t3, t4, t5, t6, t7⟩ := x6
  have hl := stc_lt hp hi
  obtain ⟨cc1, cc4, cc5, cc6, cc8⟩ := stc_c hp hi
  obtain ⟨rr2, rr4, rr6⟩ := stc_row hp hi
  have hA := arh_k x1.1.2.2.1 x1.1.2.2.2.1
  have er : (ps_i s (stc p D.length) 0).toInt = (21 : Int) := t0
  obtain ⟨Ra, aa, ab, ac, ad, ae⟩ := prem_1 X hD h1
  have Wa : cv_W s (stc p n1 + 6) (tq_r D n1) := by rw [ab]; exact ad.1
  have r5a := (stc_row hp (i := n1) (by omega)).2.2
  have la : p + 44 ≤ stc p n1 ∧ stc p n1 + 9 ≤ stc p D.length := by unfold stc; omega
  have Ga : ws (sg h.1) (tq_r D n1) [true] := by rw [ab]; exact ae.1.1
  obtain ⟨-, -, ⟨-, -, -, c3', c4', c5'⟩, -, i12, i14, i6, -⟩ := prf hp
  have h40 := Wa.2.2.1
  have tn : (ps_a s (stc p D.length + 1) 0).toInt = n1 := t1 (of_decide_eq_true rfl)
  have t5 := t5 (Or.inl rfl)
  have hx : x < 12 := hG.2.2.2.1 (Or.inl rfl)
  have hb0 : (tq_a D n1).any (fun y => !decide (y = []) && y.contains (60 + x)) = (tq_a D n1).any (fun y => y.contains (60 + x)) := by
    congr 1
    funext y
    cases y with
    | nil => rfl
    | cons c t => rw [decide_eq_false (fun e => by cases e)]; rfl
  rw [ac] at hb0
  refine pl_49_0 (fs_37 (j := 0) (i := n1) hp (stc_is hp hi) hl.2.1 rfl (by decide) tn (by omega) (pl_nk_i (fun _ => pl_nk_i (fun _ => ?_))))
  rw [c3']
  refine fs_51 (oo := []) hp x5 aa i12 (CW_of x7) t5 (fun y => ⟨fun z => absurd z (by decide), fun _ => ?_⟩) (fun y => ⟨fun _ => ?_, fun z => absurd rfl z⟩)
  · rw [hb0] at y
    have hm : tq_mk h Θ D ((21, n1, n2, n3), (ax, x), tt, f) = (3, [], [], [], []) := by rw [tq_mk_21, ac, if_pos y]
    exact k _ _ ⟨by rw [hm]; rfl, fun z => absurd z (by rw [hm]; exact of_decide_eq_true rfl), cfr_refl⟩
  · rw [hb0] at y
    have hm : tq_mk h Θ D ((21, n1, n2, n3), (ax, x), tt, f) = (0, tq_ge (arh h.1) (tq_r D n1) x, [], [], []) := by rw [tq_mk_21, ac, if_neg y]
    refine pl_nk_i (fun _ => pl_nk_i (fun _ => ?_))
    rw [c5', x2', cc6]
    refine fs_103 (r := p + 16) (r1 := stc p n1 + 6) (l := tq_r D n1) i6 r5a x3 (by omega) Ga (Or.inl rfl) Wa x1.1 (fun s2 Z F2 => pl_nk_i (fun _ => fs_91 (pl_nk_i (fun _ => ?_))))
    have G0 : cfr (C2 (stc p D.length + 6)) s2 (ps_ui (ps_ui s2 (stc p D.length + 6) 1 0) (stc p D.length + 6) 2 0) := cfr_i (cfr_i cfr_refl (Or.inl rfl)) (Or.inl rfl)
    refine fs_93w (c := 4) rr6 (CW_of CW_0) rfl (fun s3 C3 F3 => ?_)
    have G1 := cfr_tr G0 F3
    have Wa3 := cv_W_cfr (cv_W_cfr Wa F2 (by unfold CSh; omega) (by unfold CSh; omega)) G1 (by unfold C2; omega) (by unfold C2; omega)
    refine fs_49_52 (x := x) (D := D) (j := n1) (s0 := s3) hp hi h1 Wa3 (by rw [(G1 (stc p D.length) (by unfold C2; omega)).1, (F2 (stc p D.length) (by unfold CSh; omega)).1]; exact t5) (ly_len hA Ga rfl) (fun i d hd => by rw [(G1 (p + 19) (by unfold C2; omega)).2.2.2.1]; exact (Z.2.2.1 i d hd).2) (ly_b h40) (by omega) (fun s' C F => ?_) n (i := 0) (L := [4]) rfl C3 rfl cfr_refl
    have FF : cfr (fun q => CSh (p + 16) q ∨ C2 (stc p D.length + 6) q) s s' := cfr_tr (cfr_mono F2 (fun q z => Or.inl z)) (cfr_mono (cfr_tr G1 F) (fun q z => Or.inr z))
    exact k _ _ ⟨by rw [hm]; rfl, fun _ => cpM_0 hm (of_decide_eq_true rfl) (of_decide_eq_true rfl) (of_decide_eq_true rfl) B hN FF (by unfold CSh C2; omega) (by unfold CSh C2; omega) (fun q a b => by unfold CSh C2; omega) C, cfr_mono FF (fun q z => z.elim (CSh_CTO q) (C2_CTO q))⟩


end
