set_option maxRecDepth 100000
section
variable {p th n1 n2 n3 ax x : Nat} {tt f : List Nat} {h : tx_H} {Θ : List tq_H} {D : List tq_R} {s : ps_S} {R : Int32 → ps_S → Prop}
theorem fs_45_r14 {n : Nat} (hp : p = 50 ∨ p = 460) (hi : D.length < 40) (X : cpX s p th h Θ D ((14, n1, n2, n3), (ax, x), tt, f)) (hD : tq_GD h.1 D) (hG : tp_G h.1 h.2.length ((14, n1, n2, n3), (ax, x), tt, f)) (B : cpB s p (stc p D.length)) (h1 : n1 < D.length) (k : ∀ v s', cpK s p h Θ D ((14, n1, n2, n3), (ax, x), tt, f) v s' → R v s') : pl_Cl n 45 [.ref p, .ref (stc p D.length), .ref (stc p n1 + 6)] s (ps_rI R) := by
  cases n with
  | zero => exact pl_At_0
  | succ n =>
  show pl_At (n + 1) 45 0 [(0, .ref p), (1, .ref (stc p D.length)), (2, .ref (stc p n1 + 6))] [] s (ps_rI R)
  obtain ⟨⟨x1, x2', x3⟩, x4, x5, x6, x7⟩ := id X
  have hN := cpN_of x6
  obtain ⟨t0, t1, t2, t3, t4, t5, t6, t7⟩ := x6
  have hl := stc_lt hp hi
  obtain ⟨cc1, cc4, cc5, cc6, cc8⟩ := stc_c hp hi
  obtain ⟨rr2, rr4, rr6⟩ := stc_row hp hi
  have hA := arh_k x1.1.2.2.1 x1.1.2.2.2.1
  have er : (ps_i s (stc p D.length) 0).toInt = (14 : Int) := t0
  obtain ⟨Ra, aa, ab, ac, ad, ae⟩ := prem_1 X hD h1
  have Wa : cv_W s (stc p n1 + 6) (tq_r D n1) := by rw [ab]; exact ad.1
  have r5a := (stc_row hp (i := n1) (by omega)).2.2
  have la : p + 44 ≤ stc p n1 ∧ stc p n1 + 9 ≤ stc p D.length := by unfold stc; omega
  have Ga : ws (sg h.1) (tq_r D n1) [true] := by rw [ab]; exact ae.1.1
  obtain ⟨-, -, ⟨-, -, -, c3', c4', c5'⟩, -, i12, i14, i6, -⟩ := prf hp
  have h40 := Wa.2.2.1
  refine pl_45_0 (fs_92h (c := 1) r5a Wa (fun v1 hh q1 => ?_) (fun v1 hh q1 => ?_))
  · refine ⟨fun _ => ?_, fun z => absurd (show v1 = 1 from Int32.toInt_inj.mp q1) z⟩
    obtain ⟨w1, w2, w3, ea⟩ := tq_half hA Ga hh (kS_2 (by decide) (by decide))
    have hen := en_le hA (k := 1) w3 (by simp)
    have hl1 : (tq_1 (arh h.1) (tq_r D n1)).length = en (arh h.1) ((tq_r D n1).drop 1) 1 := by
      unfold tq_1
      rw [List.length_take]
      omega
    have hal : (tq_r D n1).length = 1 + ((tq_r D n1).drop 1).length := by
      have := congrArg List.length ea
      rw [List.length_cons] at this
      rw [List.length_drop]
      omega
    have h1s : ((tq_r D n1).drop 1).take (1 + (tq_1 (arh h.1) (tq_r D n1)).length - 1) = tq_1 (arh h.1) (tq_r D n1) := by
      rw [Nat.add_sub_cancel_left, hl1]
      rfl
    have h2s : ((tq_r D n1).drop (1 + (tq_1 (arh h.1) (tq_r D n1)).length)).take ((tq_r D n1).length - (1 + (tq_1 (arh h.1) (tq_r D n1)).length)) = tq_2 (arh h.1) (tq_r D n1) := by
      rw [List.take_of_length_le (by rw [List.length_drop]; omega), hl1, ← List.drop_drop]
      rfl
    have hm : tq_mk h Θ D ((14, n1, n2, n3), (ax, x), tt, f) = (0, tq_1 (arh h.1) (tq_r D n1), [], [], []) := by rw [tq_mk_14, if_pos hh]
    refine pl_nk_i (fun _ => pl_nk_i (fun _ => ?_))
    rw [c5', x2', cc6]
    refine fs_103 (r := p + 16) (r1 := stc p n1 + 6) (l := tq_r D n1) i6 r5a x3 (by omega) Ga (Or.inl rfl) Wa x1.1 (fun s2 Z F2 => pl_nk_i (fun _ => ?_))
    refine fs_104 (i := 1) i6 rfl (by decide) (fun v3 q3 => pl_nk_i (fun _ => ?_))
    have e3 : v3.toInt = (1 + (tq_1 (arh h.1) (tq_r D n1)).length : Nat) := by
      rw [q3, Z.1 1 (Nat.zero_le _) (by obtain ⟨c, t, e⟩ := ws_ne w3; rw [e, List.length_cons] at hal; omega), hl1]
    have Wa2 := cv_W_cfr Wa F2 (by unfold CSh; omega) (by unfold CSh; omega)
    have er2 : (ps_i s2 (stc p D.length) 0).toInt = (14 : Int) := by rw [(F2 (stc p D.length) (by unfold CSh; omega)).1]; exact er
    refine ⟨fun z => absurd er2 (xne z), fun _ => ?_⟩
    refine pl_nk_i (fun _ => ?_)
    refine fs_96 (a := 1) (b := 1 + (tq_1 (arh h.1) (tq_r D n1)).length) rr6 r5a (by omega) Wa2 rfl e3 (by omega) (fun s4 W4 F4 => ?_)
    rw [h1s] at W4
    have FF : cfr (fun q => CSh (p + 16) q ∨ C2 (stc p D.length + 6) q) s s4 := cfr_tr (cfr_mono F2 (fun q z => Or.inl z)) (cfr_mono F4 (fun q z => Or.inr z))
    exact k _ _ ⟨by rw [hm]; rfl, fun _ => cpM_0 hm (of_decide_eq_true rfl) (of_decide_eq_true rfl) (of_decide_eq_true rfl) B hN FF (by unfold CSh C2; omega) (by unfold CSh C2; omega) (fun q a b => by unfold CSh C2; omega) (CW_of W4), cfr_mono FF (fun q z => z.elim (CSh_CTO q) (C2_CTO q))⟩
  · refine ⟨fun z => absurd (show v1.toInt = ((1 : Nat) : Int) from xeq z) q1, fun _ => ?_⟩
    have hm : tq_mk h Θ D ((14, n1, n2, n3), (ax, x), tt, f) = (2, [], [], [], []) := by rw [tq_mk_14, if_neg hh]
    exact k _ _ ⟨by rw [hm]; rfl, fun z => absurd z (by rw [hm]; exact of_decide_eq_true rfl), cfr_refl⟩


end
