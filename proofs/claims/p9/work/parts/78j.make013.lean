set_option maxRecDepth 100000
section
variable {p th n1 n2 n3 ax x : Nat} {tt f : List Nat} {h : tx_H} {Θ : List tq_H} {D : List tq_R} {s : ps_S} {R : Int32 → ps_S → Prop}
theorem fs_46_r18 {n : Nat} (hp : p = 50 ∨ p = 460) (hi : D.length < 40) (X : cpX s p th h Θ D ((18, n1, n2, n3), (ax, x), tt, f)) (hD : tq_GD h.1 D) (hG : tp_G h.1 h.2.length ((18, n1, n2, n3), (ax, x), tt, f)) (B : cpB s p (stc p D.length)) (h1 : n1 < D.length) (h2 : n2 < D.length) (h3 : n3 < D.length) (k : ∀ v s', cpK s p h Θ D ((18, n1, n2, n3), (ax, x), tt, f) v s' → R v s') : pl_Cl n 46 [.ref p, .ref (stc p D.length), .ref (stc p n1 + 6)] s (ps_rI R) := by
  cases n with
  | zero => exact pl_At_0
  | succ n =>
  show pl_At (n + 1) 46 0 [(0, .ref p), (1, .ref (stc p D.length)), (2, .ref (stc p n1 + 6))] [] s (ps_rI R)
  obtain ⟨⟨x1, x2', x3⟩, x4, x5, x6, x7⟩ := id X
  have hN := cpN_of x6
  obtain ⟨t0, t1, t2, t3, t4, t5, t6, t7⟩ := x6
  have hl := stc_lt hp hi
  obtain ⟨cc1, cc4, cc5, cc6, cc8⟩ := stc_c hp hi
  obtain ⟨rr2, rr4, rr6⟩ := stc_row hp hi
  have hA := arh_k x1.1.2.2.1 x1.1.2.2.2.1
  have er : (ps_i s (stc p D.length) 0).toInt = (18 : Int) := t0
  obtain ⟨Ra, aa, ab, ac, ad, ae⟩ := prem_1 X hD h1
  have Wa : cv_W s (stc p n1 + 6) (tq_r D n1) := by rw [ab]; exact ad.1
  have r5a := (stc_row hp (i := n1) (by omega)).2.2
  have la : p + 44 ≤ stc p n1 ∧ stc p n1 + 9 ≤ stc p D.length := by unfold stc; omega
  have Ga : ws (sg h.1) (tq_r D n1) [true] := by rw [ab]; exact ae.1.1
  obtain ⟨Rb, ba, bb, bc, bd, be⟩ := prem_1 X hD h2
  have Wb : cv_W s (stc p n2 + 6) (tq_r D n2) := by rw [bb]; exact bd.1
  have r5b := (stc_row hp (i := n2) (by omega)).2.2
  have lb : p + 44 ≤ stc p n2 ∧ stc p n2 + 9 ≤ stc p D.length := by unfold stc; omega
  have Gb : ws (sg h.1) (tq_r D n2) [true] := by rw [bb]; exact be.1.1
  obtain ⟨Rc, ca, cb, cc, cd, ce⟩ := prem_1 X hD h3
  have Wc : cv_W s (stc p n3 + 6) (tq_r D n3) := by rw [cb]; exact cd.1
  have r5c := (stc_row hp (i := n3) (by omega)).2.2
  have lc : p + 44 ≤ stc p n3 ∧ stc p n3 + 9 ≤ stc p D.length := by unfold stc; omega
  have Gc : ws (sg h.1) (tq_r D n3) [true] := by rw [cb]; exact ce.1.1
  obtain ⟨-, -, ⟨-, -, -, c3', c4', c5'⟩, -, i12, i14, i6, -⟩ := prf hp
  have h40 := Wa.2.2.1
  obtain ⟨b1, b2, b3, b4, b5⟩ := B
  have no : ¬ ((tq_r D n1).head? = some 2 ∧ tq_r D n2 = tq_r D n3) → R 2 s := fun hh => by
    have hm : tq_mk h Θ D ((18, n1, n2, n3), (ax, x), tt, f) = (2, [], [], [], []) := by rw [tq_mk_18, if_neg hh]
    exact k _ _ ⟨by rw [hm]; rfl, fun z => absurd z (by rw [hm]; exact of_decide_eq_true rfl), cfr_refl⟩
  refine pl_46_0 (fs_37 (j := 1) (i := n2) hp (stc_is hp hi) hl.2.1 rfl (by decide) (t2 (of_decide_eq_true rfl)) (by omega) (pl_nk_i (fun _ => ?_)))
  rw [(stc_c hp (i := n2) (by omega)).2.2.2.1]
  refine fs_92h (c := 2) r5a Wa (fun v1 hh q1 => ⟨fun z => absurd (show v1 = 2 from Int32.toInt_inj.mp q1) z, fun _ => ?_⟩) (fun v1 hh q1 => ⟨fun _ => no (fun y => hh y.1), fun z => absurd (show v1.toInt = ((2 : Nat) : Int) from xeq z) q1⟩)
  refine fs_37 (j := 2) (i := n3) hp (stc_is hp hi) hl.2.1 rfl (by decide) (t3 (of_decide_eq_true rfl)) (by omega) (pl_nk_i (fun _ => ?_))
  rw [(stc_c hp (i := n3) (by omega)).2.2.2.1]
  refine fs_98 r5b r5c (CW_of Wb) (CW_of Wc) (Or.inl Wb.2.2.1) (fun e => ⟨fun _ => ?_, fun z => absurd z (by decide)⟩) (fun e => ⟨fun z => absurd rfl z, fun _ => no (fun y => e y.2)⟩)
  obtain ⟨w1, w2, w3, ea⟩ := tq_half hA Ga hh (kS_2 (by decide) (by decide))
  have hen := en_le hA (k := 1) w3 (by simp)
  have hl1 : (tq_1 (arh h.1) (tq_r D n1)).length = en (arh h.1) ((tq_r D n1).drop 1) 1 := by
    unfold tq_1
    rw [List.length_take]
    omega
  have hal : (tq_r D n1).length = 1 + ((tq_r D n1).drop 1).length := by
    have := congrArg List.length ea
    rw [List.length_cons] at this
    rw [List.length_drop]
    omega
  have h1s : ((tq_r D n1).drop 1).take (1 + (tq_1 (arh h.1) (tq_r D n1)).length - 1) = tq_1 (arh h.1) (tq_r D n1) := by
    rw [Nat.add_sub_cancel_left, hl1]
    rfl
  have h2s : ((tq_r D n1).drop (1 + (tq_1 (arh h.1) (tq_r D n1)).length)).take ((tq_r D n1).length - (1 + (tq_1 (arh h.1) (tq_r D n1)).length)) = tq_2 (arh h.1) (tq_r D n1) := by
    rw [List.take_of_length_le (by rw [List.length_drop]; omega), hl1, ← List.drop_drop]
    rfl
  have hm : tq_mk h Θ D ((18, n1, n2, n3), (ax, x), tt, f) = (0, tq_r D n2, [], tq_1 (arh h.1) (tq_r D n1), tq_2 (arh h.1) (tq_r D n1)) := by rw [tq_mk_18, if_pos ⟨hh, e⟩]
  refine pl_nk_i (fun _ => pl_nk_i (fun _ => ?_))
  rw [c5', x2']
  refine fs_103 (r := p + 16) (r1 := stc p n1 + 6) (l := tq_r D n1) i6 r5a x3 (by omega) Ga (Or.inl rfl) Wa x1.1 (fun s2 Z F2 => pl_nk_i (fun _ => ?_))
  refine fs_104 (i := 1) i6 rfl (by decide) (fun v6 q6 => ?_)
  have e3 : v6.toInt = (1 + (tq_1 (arh h.1) (tq_r D n1)).length : Nat) := by
    rw [q6, Z.1 1 (Nat.zero_le _) (by obtain ⟨c, t, e⟩ := ws_ne w3; rw [e, List.length_cons] at hal; omega), hl1]
  have Wa2 := cv_W_cfr Wa F2 (by unfold CSh; omega) (by unfold CSh; omega)
  refine fs_38 (i := 1) hp rfl (by decide) ?_
  refine fs_96 (a := 1) (b := 1 + (tq_1 (arh h.1) (tq_r D n1)).length) ((prf hp).2.1 1 (by decide)).2 r5a (by unfold otc; omega) Wa2 rfl e3 (by omega) (fun s4 W4 F4 => ?_)
  rw [h1s] at W4
  have Wa4 := cv_W_cfr Wa2 F4 (by unfold C2 otc; omega) (by unfold C2 otc; omega)
  refine fs_38 (i := 2) hp rfl (by decide) (pl_nk_i (fun _ => ?_))
  refine fs_96 (a := 1 + (tq_1 (arh h.1) (tq_r D n1)).length) (b := (tq_r D n1).length) ((prf hp).2.1 2 (by decide)).2 r5a (by unfold otc; omega) Wa4 e3 Wa4.1 (Nat.le_refl _) (fun s5 W5 F5 => pl_nk_i (fun _ => ?_))
  rw [h2s] at W5
  rw [cc6]
  have Fa : cfr (fun q => CSh (p + 16) q ∨ (p + 406 ≤ q ∧ q ≤ p + 409)) s s5 := cfr_tr (cfr_tr (cfr_mono F2 (fun q z => Or.inl z)) (cfr_mono F4 (fun q z => Or.inr (by unfold C2 otc at z; omega)))) (cfr_mono F5 (fun q z => Or.inr (by unfold C2 otc at z; omega)))
  have Wb5 := cv_W_cfr Wb Fa (by unfold CSh; omega) (by unfold CSh; omega)
  refine fs_95 rr6 r5b (by omega) Wb5 (fun s6 W6 F6 => ?_)
  have Fb : cfr (fun q => (CSh (p + 16) q ∨ (p + 406 ≤ q ∧ q ≤ p + 409)) ∨ C2 (stc p D.length + 6) q) s s6 := cfr_tr (cfr_mono Fa (fun q z => Or.inl z)) (cfr_mono F6 (fun q z => Or.inr z))
  have f0 := Fb (stc p D.length) (by unfold CSh C2; omega)
  refine k _ _ ⟨by rw [hm]; rfl, fun _ => ?_, cfr_mono Fb (fun q z => by unfold CSh C2 at z; unfold CTO; omega)⟩
  unfold cpM
  rw [hm]
  refine ⟨CW_of W6, ⟨CW_cfr (b1 0 (by decide)) Fb (by unfold CSh C2 otc; omega) (by unfold CSh C2 otc; omega), CW_of (cv_W_cfr (cv_W_cfr W4 F5 (by unfold C2 otc; omega) (by unfold C2 otc; omega)) F6 (by unfold C2 otc; omega) (by unfold C2 otc; omega)), CW_of (cv_W_cfr W5 F6 (by unfold C2 otc; omega) (by unfold C2 otc; omega))⟩, ⟨by rw [f0.1]; exact b4, by rw [f0.1]; exact b5⟩, fun _ => PA_0 (by rw [f0.1]; exact b2) (by rw [f0.1]; exact b3), fun z => absurd z (of_decide_eq_true rfl), cpN_eq hN (by rw [f0.1]) (Fb (stc p D.length + 1) (by unfold CSh C2; omega)).2.2.2.1⟩


end
