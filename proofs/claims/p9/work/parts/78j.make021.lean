set_option maxRecDepth 100000
section
variable {p th n1 n2 n3 ax x : Nat} {tt f : List Nat} {h : tx_H} {Θ : List tq_H} {D : List tq_R} {s : ps_S} {R : Int32 → ps_S → Prop}
theorem fs_54_r24 {n : Nat} (hp : p = 50 ∨ p = 460) (hi : D.length < 40) (X : cpX s p th h Θ D ((24, n1, n2, n3), (ax, x), tt, f)) (hD : tq_GD h.1 D) (hG : tp_G h.1 h.2.length ((24, n1, n2, n3), (ax, x), tt, f)) (B : cpB s p (stc p D.length)) (h1 : n1 < D.length) (h2 : n2 < D.length) (k : ∀ v s', cpK s p h Θ D ((24, n1, n2, n3), (ax, x), tt, f) v s' → R v s') : pl_Cl n 54 [.ref p, .ref (stc p D.length), .ref (stc p n1 + 6), .ref (stc p n2)] s (ps_rI R) := by
  cases n with
  | zero => exact pl_At_0
  | succ n =>
  show pl_At (n + 1) 54 0 [(0, .ref p), (1, .ref (stc p D.length)), (2, .ref (stc p n1 + 6)), (3, .ref (stc p n2))] [] s (ps_rI R)
  obtain ⟨⟨x1, x2', x3⟩, x4, x5, x6, x7⟩ := id X
  have hN := cpN_of x6
  obtain ⟨t0, t1, t2, t3, t4, t5, t6, t7⟩ := x6
  have hl := stc_lt hp hi
  obtain ⟨cc1, cc4, cc5, cc6, cc8⟩ := stc_c hp hi
  obtain ⟨rr2, rr4, rr6⟩ := stc_row hp hi
  have hA := arh_k x1.1.2.2.1 x1.1.2.2.2.1
  have er : (ps_i s (stc p D.length) 0).toInt = (24 : Int) := t0
  obtain ⟨Ra, aa, ab, ac, ad, ae⟩ := prem_1 X hD h1
  have Wa : cv_W s (stc p n1 + 6) (tq_r D n1) := by rw [ab]; exact ad.1
  have r5a := (stc_row hp (i := n1) (by omega)).2.2
  have la : p + 44 ≤ stc p n1 ∧ stc p n1 + 9 ≤ stc p D.length := by unfold stc; omega
  have Ga : ws (sg h.1) (tq_r D n1) [true] := by rw [ab]; exact ae.1.1
  obtain ⟨Rb, ba, bb, bc, bd, be⟩ := prem_1 X hD h2
  have Wb : cv_W s (stc p n2 + 6) (tq_r D n2) := by rw [bb]; exact bd.1
  have r5b := (stc_row hp (i := n2) (by omega)).2.2
  have lb : p + 44 ≤ stc p n2 ∧ stc p n2 + 9 ≤ stc p D.length := by unfold stc; omega
  have Gb : ws (sg h.1) (tq_r D n2) [true] := by rw [bb]; exact be.1.1
  obtain ⟨-, -, ⟨-, -, -, c3', c4', c5'⟩, -, i12, i14, i6, -⟩ := prf hp
  have h40 := Wa.2.2.1
  have t5 := t5 (Or.inr rfl)
  obtain ⟨b1, b2, b3, b4, b5⟩ := B
  have o5 := ((prf hp).2.1 1 (by decide)).2
  refine pl_54_0 (fs_92h (c := 5) r5a Wa (fun v1 hh q1 => ⟨fun _ => pl_nk_i (fun _ => ?_), fun z => absurd (show v1 = 5 from Int32.toInt_inj.mp q1) z⟩) (fun v1 hh q1 => ⟨fun z => absurd (show v1.toInt = ((5 : Nat) : Int) from xeq z) q1, fun _ => ?_⟩))
  · rw [cc4, cc6]
    refine fs_91 (pl_nk_i (fun _ => pl_nk_i (fun _ => ?_)))
    have G0 : cfr (C2 (stc p D.length + 2)) s (ps_ui (ps_ui s (stc p D.length + 2) 1 0) (stc p D.length + 2) 2 0) := cfr_i (cfr_i cfr_refl (Or.inl rfl)) (Or.inl rfl)
    refine fs_93w (c := 60 + x) rr2 (CW_of CW_0) (by rw [(G0 (stc p D.length) (by unfold C2; omega)).1]; exact t5) (fun s3 C3 F3 => ?_)
    have G1 := cfr_tr G0 F3
    have Wt : cv_W s3 (stc p D.length + 2) [60 + x] := C3.2.1 (show 1 ≤ 40 from by decide)
    refine fs_38 (i := 1) hp rfl (by decide) (pl_nk_i (fun _ => ?_))
    have Wa3 := cv_W_cfr Wa G1 (by unfold C2; omega) (by unfold C2; omega)
    refine fs_52 (th := th) hp x3 (by rw [(G1 p (by unfold C2; omega)).2.2.1]; exact x2') (cv_E_cfr x1.1 G1 (by unfold C2; omega) (by unfold C2; omega) (by unfold C2; omega) (by unfold C2; omega)) o5 r5a rr2 (by unfold apart otc; omega) (by unfold apart otc; omega) (by unfold otc; omega) Wa3 Ga Wt (fun s5 C5 F5 => pl_nk_i (fun _ => ?_))
    have GG : cfr (fun q => C2 (stc p D.length + 2) q ∨ CPI p (otc p 1) q) s s5 := cfr_tr (cfr_mono G1 (fun q z => Or.inl z)) (cfr_mono F5 (fun q z => Or.inr z))
    have GG' : cfr (CTO p D.length) s s5 := cfr_mono GG (fun q z => by unfold CPI CSh C2 otc at z; unfold CTO; omega)
    have Wa5 := cv_W_cfr Wa GG (by unfold CPI CSh C2 otc; omega) (by unfold CPI CSh C2 otc; omega)
    have Wb5 := cv_W_cfr Wb GG (by unfold CPI CSh C2 otc; omega) (by unfold CPI CSh C2 otc; omega)
    have x55 := cpD_cfr x5 GG (fun q a b => by unfold CPI CSh C2 otc; unfold stc at *; omega)
    have t55 : (ps_i s5 (stc p D.length) 3).toInt = (60 + x : Nat) := by rw [(GG (stc p D.length) (by unfold CPI CSh C2 otc; omega)).1]; exact t5
    have no : ((tq_r D n1).contains (60 + x) = true ∨ (tq_r D n2).contains (60 + x) = true ∨ (tq_a D n2).any (fun y => !decide (y = tq_in (arh h.1) (tq_r D n1) [60 + x]) && y.contains (60 + x)) = true) → R 3 s5 := fun y => by
      have hm : tq_mk h Θ D ((24, n1, n2, n3), (ax, x), tt, f) = (3, [], [], [], []) := by rw [tq_mk_24, if_pos hh, if_pos y]
      exact k _ _ ⟨by rw [hm]; rfl, fun z => absurd z (by rw [hm]; exact of_decide_eq_true rfl), GG'⟩
    have at68 : ((tq_r D n1).contains (60 + x) = true ∨ (tq_r D n2).contains (60 + x) = true) → pl_At n 54 68 [(0, .ref p), (1, .ref (stc p D.length)), (3, .ref (stc p n2))] [] s5 (ps_rI R) := fun y => by
      cases n with
      | zero => exact pl_At_0
      | succ n =>
      refine pl_54_68 ⟨fun _ => no (y.elim Or.inl (fun y => Or.inr (Or.inl y))), fun z => absurd z (by decide)⟩
    refine fs_100 r5a Wa5 t55 (fun y => ⟨fun _ => at68 (Or.inl y), fun z => absurd z (by decide)⟩) (fun y => ⟨fun z => absurd rfl z, fun _ => pl_nk_i (fun _ => pl_nk_i (fun _ => ?_))⟩)
    rw [(stc_c hp (i := n2) (by omega)).2.2.2.1]
    refine fs_100 r5b Wb5 t55 (fun y2 => ⟨fun z => absurd z (by decide), fun _ => at68 (Or.inr y2)⟩) (fun y2 => ⟨fun _ => ⟨fun z => absurd rfl z, fun _ => pl_nk_i (fun _ => ?_)⟩, fun z => absurd rfl z⟩)
    refine fs_38 (i := 1) hp rfl (by decide) ?_
    refine fs_51 hp x55 ba o5 C5 t55 (fun y3 => ⟨fun z => absurd z (by decide), fun _ => no (Or.inr (Or.inr (by rw [bc]; exact y3)))⟩) (fun y3 => ⟨fun _ => pl_nk_i (fun _ => pl_nk_i (fun _ => ?_)), fun z => absurd rfl z⟩)
    have hm : tq_mk h Θ D ((24, n1, n2, n3), (ax, x), tt, f) = (0, tq_r D n2, [], tq_in (arh h.1) (tq_r D n1) [60 + x], []) := by rw [tq_mk_24, if_pos hh, if_neg (by rw [bc]; exact fun w => w.elim y (fun w => w.elim y2 y3))]
    refine fs_95 rr6 r5b (by omega) Wb5 (fun s7 W7 F7 => ?_)
    have FF : cfr (fun q => (C2 (stc p D.length + 2) q ∨ CPI p (otc p 1) q) ∨ C2 (stc p D.length + 6) q) s s7 := cfr_tr (cfr_mono GG (fun q z => Or.inl z)) (cfr_mono F7 (fun q z => Or.inr z))
    have f0 := FF (stc p D.length) (by unfold CPI CSh C2 otc; omega)
    refine k _ _ ⟨by rw [hm]; rfl, fun _ => ?_, cfr_mono FF (fun q z => by unfold CPI CSh C2 otc at z; unfold CTO; omega)⟩
    unfold cpM
    rw [hm]
    exact ⟨CW_of W7, ⟨CW_cfr (b1 0 (by decide)) FF (by unfold CPI CSh C2 otc; omega) (by unfold CPI CSh C2 otc; omega), CW_cfr C5 F7 (by unfold C2 otc; omega) (by unfold C2 otc; omega), CW_cfr (b1 2 (by decide)) FF (by unfold CPI CSh C2 otc; omega) (by unfold CPI CSh C2 otc; omega)⟩, ⟨by rw [f0.1]; exact b4, by rw [f0.1]; exact b5⟩, fun _ => PA_0 (by rw [f0.1]; exact b2) (by rw [f0.1]; exact b3), fun z => absurd z (of_decide_eq_true rfl), cpN_eq hN (by rw [f0.1]) (FF (stc p D.length + 1) (by unfold CPI CSh C2 otc; omega)).2.2.2.1⟩
  · have hm : tq_mk h Θ D ((24, n1, n2, n3), (ax, x), tt, f) = (2, [], [], [], []) := by rw [tq_mk_24, if_neg hh]
    exact k _ _ ⟨by rw [hm]; rfl, fun z => absurd z (by rw [hm]; exact of_decide_eq_true rfl), cfr_refl⟩

end
