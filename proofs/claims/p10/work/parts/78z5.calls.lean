set_option maxRecDepth 100000
/-! feed, end, theory, prove: both sides; the start -/
theorem FP_0 {s : ps_S} {t : Int32} {x1 x2 x3 x4 x5 : Int32} (h : FSt s t) : ps_Cl 299 149 [.ref 0, .int x1, .int x2, .int x3, .int x4, .int x5] s (ps_rI (fun v s1 => ps_Cl 299 308 [.ref 1131, .int x1, .int x2, .int x3, .int x4, .int x5] s1 (ps_rI (fun v2 s2 => v = v2 ∧ ∃ t2, FSt s2 t2)))) := by
  obtain ⟨g, l, p, p', D, c, Θ, B, nl, A⟩ := FSt_to h
  obtain ⟨aI, aF, aC, aM, aB, aX, aN, aP, aE⟩ := id A
  obtain ⟨⟨q4, q5, hp⟩, xP, xS, xB, xW, xu, xv⟩ := id aX
  have hp1 : p = 50 ∨ p = 460 := by omega
  have hb := LI_t aI
  have A : ps_Cl 299 149 [.ref 0, .int x1, .int x2, .int x3, .int x4, .int x5] s (ps_rI (fun v s1 => ∃ t1 : Int32, xJ s t1 s1 ∧ ((v.toInt = -1 ∧ t1 = t ∧ 1580 < t.toInt) ∨ (v = t1 ∧ t1.toInt = t.toInt + 20 ∧ t.toInt ≤ 1580)))) := xs_149 (d := 298) (LI_J aI) hb.1 hb.2 (fun v s1 t1 J p => ⟨t1, J, p⟩)
  have B1 : ∀ n, pl_Cl n 149 [.ref 0, .int x1, .int x2, .int x3, .int x4, .int x5] s (ps_rI (fun _ s1 => LM s1 t x1 x2 x3 x4 x5)) := fun n => LM_x aI aF n
  have D1 : ∀ n, pl_Cl n 149 [.ref 0, .int x1, .int x2, .int x3, .int x4, .int x5] s (ps_rI (fun _ s1 => TRc s1 g l ∧ EXc s1 p p' D c Θ B nl ∧ (ps_i s1 902 9 = ps_i s 902 9 ∧ ps_i s1 902 10 = ps_i s 902 10))) := fun n => by
    have e : ps_i s 0 1 = t := aI.2.1.2.1
    refine fs_149 (t := t.toInt.toNat) (by omega) (by rw [e]; omega) (fun _ v s' q => ?_) (fun _ => ⟨aC, aX, rfl, rfl⟩)
    obtain ⟨g1, g2, g3, g4, g5⟩ := q
    obtain ⟨c1, c2, c3⟩ := aC
    have hl := c1.2.2.1
    exact ⟨⟨by rw [g3]; exact cv_H_cfr c1 g2 (fun q a b z => by omega), by rw [g3]; exact c2, cv_W_cfr c3 g2 (fun z => by omega) (fun z => by omega)⟩, EXc_cfr aX g2 (by rw [g3]) (by rw [g3]) (fun q a z => by omega), (g2 902 (fun z => by omega)).1 9, (g2 902 (fun z => by omega)).1 10⟩
  refine ps_monoI (ps_andlI (ps_andlI A B1 (fun v w s1 s2 r1 r2 z => LM_det hb.1 hb.2 r2 r1 z)) D1 (fun v w s1 s2 r1 r2 z => ⟨TRc_det r2 r1 z.1, EXc_det r2 r1 z.2.1, (det_f r1 r2).1.trans z.2.2.1, (det_f r1 r2).2.1.trans z.2.2.2⟩)) (fun v s1 z => ?_)
  obtain ⟨⟨⟨t1, J, q1⟩, hM1⟩, bC, bX, f1⟩ := z
  have bM := TRm_x aM J
  have bN := EXm_x aN J
  have hX := LI_x aI J
  have I := (J.2.2 1131 (by decide)).1
  have bE : EXf s1 := ⟨f1.1.trans (aE.1.trans (by rw [I])), f1.2.trans (aE.2.trans (by rw [I]))⟩
  obtain ⟨σ, h4⟩ := hX.2.2.2.1
  have A2 : ps_Cl 299 308 [.ref 1131, .int x1, .int x2, .int x3, .int x4, .int x5] s1 (ps_rI (fun v2 s2 => ∃ u2, LX s2 t1 u2 ∧ ((v2.toInt = -1 ∧ u2 = t.toInt ∧ 1580 < t.toInt) ∨ (v2.toInt = t.toInt + 20 ∧ u2 = t.toInt + 20 ∧ t.toInt ≤ 1580)) ∧ (cfr CR s1 s2 ∧ ps_r s2 = ps_r s1) ∧ TRm s2 g l ∧ EXm s2 D c Θ B nl ∧ (ps_i s2 1131 5 = ps_i s1 1131 5 ∧ ps_i s2 1131 6 = ps_i s1 1131 6))) := ms_308 (d := 299) hX.2.1 (fun v s2 J2 K2 p0 => ⟨_, LX_mk hX J2 rfl (LX_M hX K2 rfl rfl rfl rfl rfl rfl rfl rfl rfl rfl rfl) (LX_D hX K2 rfl) (LX_F hX K2 rfl), by have e3 := hX.2.2.1; omega, CR_m J2 K2 rfl, by
    obtain ⟨b, y1, y2, y3, y4⟩ := bM
    exact ⟨b, y1, by rw [kp_i K2 21 rfl]; exact y2, mv_H_V y1 y3 (fun r hr => (K2.2 r ((show ∀ r, r ∈ [1135, 1136, 1137, 1138, 1139] → [1132].contains r = false by decide) r hr)).1) (fun r hr => (K2.2 r ((show ∀ r, r ∈ [1140, 1141, 1142] → [1132].contains r = false by decide) r hr)).2) (fun k _ _ => by rw [(K2.2 1134 rfl).1]), mv_W_V y4 (fun k _ _ => by rw [(K2.2 1134 rfl).1])⟩, EXm_V bN ⟨K2, J2.1⟩ rfl rfl (fun k _ => by rw [(K2.2 1134 rfl).1]), kp_i K2 5 rfl, kp_i K2 6 rfl⟩)
  have B2 : ∀ n, pl_Cl n 308 [.ref 1131, .int x1, .int x2, .int x3, .int x4, .int x5] s1 (ps_rI (fun _ s2 => LF s2 t1)) := fun n => by
    refine pl_At.mono (LM_m hb.1 hb.2 hX.2.2.1 hM1 n) (fun o s2 z => rI_mono z (fun v y => ?_))
    exact y t1 (by rcases q1 with ⟨-, a2, a3⟩ | ⟨-, a2, a3⟩; exact Or.inl ⟨a2, a3⟩; exact Or.inr ⟨a2, a3⟩)
  refine ps_monoI (ps_andlI A2 B2 (fun v w y1 y2 r1 r2 z => LF_det (by rcases q1 with ⟨a1, a2, a3⟩ | ⟨a1, a2, a3⟩ <;> (try rw [a2]) <;> omega) r2 r1 z)) (fun v2 s2 z => ?_)
  obtain ⟨⟨u2, hL2, q2, X2, m2, n2, f2⟩, hF2⟩ := z
  have R : RFr s1 s2 t1 := ⟨LX_LI hL2 (by rcases q1 with ⟨a1, a2, a3⟩ | ⟨a1, a2, a3⟩ <;> rcases q2 with ⟨b1, b2, b3⟩ | ⟨b1, b2, b3⟩ <;> (try rw [a2]) <;> omega), hF2, X2⟩
  exact ⟨Int32.toInt_inj.mp (by rcases q1 with ⟨a1, a2, a3⟩ | ⟨a1, a2, a3⟩ <;> rcases q2 with ⟨b1, b2, b3⟩ | ⟨b1, b2, b3⟩ <;> (try rw [a1]) <;> omega), t1, FMk R bC bX m2 aB n2 aP ⟨bE.1.trans f2.1.symm, bE.2.trans f2.2.symm⟩⟩
theorem FP_1 {s : ps_S} {t : Int32} {x1 : Int32} (h : FSt s t) : ps_Cl 299 150 [.ref 0, .int x1] s (ps_rI (fun v s1 => ps_Cl 299 309 [.ref 1131, .int x1] s1 (ps_rI (fun v2 s2 => v = v2 ∧ ∃ t2, FSt s2 t2)))) := by
  obtain ⟨g, l, p, p', D, c, Θ, B, nl, A⟩ := FSt_to h
  obtain ⟨aI, aF, aC, aM, aB, aX, aN, aP, aE⟩ := id A
  obtain ⟨⟨q4, q5, hp⟩, xP, xS, xB, xW, xu, xv⟩ := id aX
  have hp1 : p = 50 ∨ p = 460 := by omega
  have hb := LI_t aI
  refine ps_monoI (ps_andlI (g := fun _ s1 => ps_r s1 0 4 = ps_r s 0 4 ∧ ps_r s1 0 5 = ps_r s 0 5) (cx_150 aI aF) (fun n => fs_150r (fun v s' z => ⟨by rw [z], by rw [z]⟩)) (fun v w s1 s2 r1 r2 z => ⟨(det_p r1 r2).1.trans z.1, (det_p r1 r2).2.trans z.2⟩)) (fun v s1 z => ?_)
  obtain ⟨⟨t1, J, q1⟩, r4, r5⟩ := z
  have hX : LX s1 t1 t.toInt := LI_x aI J.1
  have bF : LF s1 t1 := LF_k aF J (fun z => by omega) (fun z => by omega) (fun z => by omega) (by rcases q1 with ⟨-, e, -⟩ | ⟨-, e, -, e2⟩ <;> (rw [e]; omega))
  have bC := TRc_x aC J (fun q a z => by omega)
  have bM := TRm_x aM J.1
  have bN := EXm_x aN J.1
  have bE := EXf_x J (fun z => by omega) aE
  have bX := EXc_cfr aX J.2.1 r4 r5 (fun q a z => by omega)
  have A2 : ps_Cl 299 309 [.ref 1131, .int x1] s1 (ps_rI (fun v2 s2 => ∃ u2, ((v2.toInt = -1 ∧ u2 = t.toInt ∧ (x1.toInt < 0 ∨ t.toInt < x1.toInt)) ∨ (v2.toInt = x1.toInt ∧ u2 = x1.toInt ∧ 0 ≤ x1.toInt ∧ x1.toInt ≤ t.toInt)) ∧ (u2 = t1.toInt → RFr s1 s2 t1) ∧ RFk s1 s2)) := ms_309 (d := 299) hX.2.1 (fun v s2 J2 K2 p0 => ⟨(ps_i s2 1131 3).toInt, by have e3 := hX.2.2.1; omega, fun e => RFr_m bF (LX_LI (LX_mk hX J2 rfl (LX_M hX K2 rfl rfl rfl rfl rfl rfl rfl rfl rfl rfl rfl) (LX_D hX K2 rfl) (LX_F hX K2 rfl)) e) J2 K2 rfl, RFk_m J2 K2 rfl rfl rfl⟩)
  refine ps_monoI A2 (fun v2 s2 y => ?_)
  obtain ⟨u2, q2, kR, k1, k2, k3, k4⟩ := y
  have R := kR (by rcases q1 with ⟨a1, a2, a3⟩ | ⟨a1, a2, a3⟩ <;> rcases q2 with ⟨b1, b2, b3⟩ | ⟨b1, b2, b3⟩ <;> (try rw [a2]) <;> omega)
  exact ⟨Int32.toInt_inj.mp (by rcases q1 with ⟨a1, a2, a3⟩ | ⟨a1, a2, a3⟩ <;> rcases q2 with ⟨b1, b2, b3⟩ | ⟨b1, b2, b3⟩ <;> (try rw [a1]) <;> omega), t1, FMk R bC bX (k1 _ _ bM) aB (k2 _ _ _ _ _ bN) aP ⟨bE.1.trans k3.symm, bE.2.trans k4.symm⟩⟩
theorem FP_2 {s : ps_S} {t : Int32} (h : FSt s t) : ps_Cl 299 151 [.ref 0] s (ps_rI (fun v s1 => ps_Cl 299 201 [.ref 1131] s1 (ps_rI (fun v2 s2 => v = v2 ∧ ∃ t2, FSt s2 t2)))) := by
  obtain ⟨g, l, p, p', D, c, Θ, B, nl, A⟩ := FSt_to h
  obtain ⟨aI, aF, aC, aM, aB, aX, aN, aP, aE⟩ := id A
  obtain ⟨⟨q4, q5, hp⟩, xP, xS, xB, xW, xu, xv⟩ := id aX
  have hp1 : p = 50 ∨ p = 460 := by omega
  have hb := LI_t aI
  have e0 : ps_i s 0 1 = t := aI.2.1.2.1
  have hth := aF.2.2.2.2.2
  have hc := aC.2.1
  have hbs : cv_base s (ps_r s 0 3) := by
    rcases hth with e | e
    · rw [e]
      exact aF.2.2.1
    · rw [e]
      exact aF.2.2.2.1
  have A : ps_Cl 299 151 [.ref 0] s (ps_rI (fun v s1 => yJ s 0 s1)) := ys_151 (d := 259) (LF_J aI aF) (fun v s1 J => J)
  refine ps_monoI (ps_andlI (g := fun v s1 => (∃ (hh : tx_H) (pp : Nat), gt_go (tx_ln (TT s) t.toInt.toNat) (0, (([], []), []), 0, 0) (3, hh, pp, 0) ∧ v.toInt = hh.2.length ∧ TRc s1 hh [] ∧ ((ps_i s1 902 9).toInt = 0 ∧ (ps_i s1 902 10).toInt = -1) ∧ EXc s1 p p' [] 0 [] (fun _ => none) []) ∨ (∃ (hh : tx_H) (pl k : Nat), gt_go (tx_ln (TT s) t.toInt.toNat) (0, (([], []), []), 0, 0) (4, hh, pl, k) ∧ v.toInt = -1 ∧ TRc s1 g l ∧ ((ps_i s1 902 9).toInt = k ∧ (ps_i s1 902 10).toInt = pl) ∧ EXc s1 p p' D c Θ B nl)) A (fun n => fs_151f (T := TT s) (N := t.toInt.toNat) hp q4 q5 hth rfl rfl hbs (by rw [e0]; omega) (by omega) (fun k _ => bytes_T) aF.2.1 xu xv (fun v s' hh pp z1 z2 z3 z4 z5 z6 z7 => Or.inl ⟨hh, pp, z1, z2, ⟨by rw [z4.1]; exact z3, by rw [z4.1, z4.2]; omega, z5⟩, z6, z7⟩) (fun s' hh pl k z1 z2 z3 F rr => Or.inr ⟨hh, pl, k, z1, by decide, ?_, ⟨z2, z3⟩, EXc_cfr aX F (rr 4) (rr 5) (fun q a z => by unfold cv_HC at z; omega)⟩)) (fun v w s1 s2 r1 r2 z => ?_)) (fun v s1 z => ?_)
  · obtain ⟨c1, c2, c3⟩ := aC
    have hl := c1.2.2.1
    exact ⟨by rw [rr 2]; exact cv_H_cfr c1 F (fun q a b z => by unfold cv_HC at z; omega), by rw [rr 2, rr 3]; exact c2, cv_W_cfr c3 F (fun z => by unfold cv_HC at z; omega) (fun z => by unfold cv_HC at z; omega)⟩
  · rcases z with ⟨hh, pp, z1, z2, z3, z4, z5⟩ | ⟨hh, pl, k, z1, z2, z3, z4, z5⟩
    · exact Or.inl ⟨hh, pp, z1, z2, TRc_det r2 r1 z3, f9t_det r1 r2 z4, EXc_det r2 r1 z5⟩
    · exact Or.inr ⟨hh, pl, k, z1, z2, TRc_det r2 r1 z3, f9t_det r1 r2 z4, EXc_det r2 r1 z5⟩
  obtain ⟨J, c1⟩ := z
  have hX : LX s1 0 t.toInt := LI_x aI J.1
  have bF : LF s1 0 := LF_x aF J (by rw [Int32.toInt_zero]; exact hb.1)
  have bM := TRm_x aM J.1
  have bN := EXm_x aN J.1
  have B2 : ∀ n, pl_Cl n 201 [.ref 1131] s1 (ps_rI (fun v s2 => (∃ (hh : tx_H) (pp : Nat), gt_go (tx_ln (TT s) t.toInt.toNat) (0, (([], []), []), 0, 0) (3, hh, pp, 0) ∧ v.toInt = hh.2.length ∧ TRm s2 hh [] ∧ ((ps_i s2 1131 5).toInt = 0 ∧ (ps_i s2 1131 6).toInt = -1) ∧ EXm s2 [] 0 [] (fun _ => none) []) ∨ (∃ (hh : tx_H) (pl k : Nat), gt_go (tx_ln (TT s) t.toInt.toNat) (0, (([], []), []), 0, 0) (4, hh, pl, k) ∧ v.toInt = -1 ∧ TRm s2 g l ∧ ((ps_i s2 1131 5).toInt = k ∧ (ps_i s2 1131 6).toInt = pl) ∧ EXm s2 D c Θ B nl))) := fun n => by
    obtain ⟨b, y1, y2, y3, y4⟩ := id bM
    have h3 := hX.2.2.1
    refine fm_201z (b := b) (T := TT s) (N := t.toInt.toNat) y1 y2 (by omega) (by omega) (fun k hk => ?_) (fun v s2 z => ?_) (fun v s2 z => ?_)
    · rw [(J.1.2.2 1132 (by decide)).2.2.1, ← aF.1 k (by omega)]
      exact bytes_T
    · obtain ⟨⟨hh, pp, gg, ev, H, e21, mG, -, e47, e48, e49, e54, e5, e6, e76⟩, -⟩ := z
      exact Or.inl ⟨hh, pp, gg, ev, ⟨1 - b, by omega, e21, H, ⟨by rw [e5]; rfl, Nat.zero_le _, fun k c hk => by cases hk⟩⟩, mG, ⟨⟨Nat.zero_le _, fun k R hk => by cases hk⟩, e47, fun _ => ⟨Int32.toInt_inj.mp (e48.trans (by decide)), Int32.toInt_inj.mp (e49.trans (by decide))⟩, fun z => absurd rfl z⟩, ⟨e54, Nat.zero_le _, fun k q hk => by cases hk⟩, fun k hk => ⟨(fun Θ hΘ => by cases hΘ), (fun _ => by rw [e76 k hk]; decide)⟩, ⟨by rw [e6]; rfl, Nat.zero_le _, fun k c hk => by cases hk⟩⟩
    · obtain ⟨⟨⟨hh, pl, k, gg, ev, hk, i5, i6, e21, F⟩, V⟩, K, V2⟩ := z
      exact Or.inr ⟨hh, pl, k, gg, ev, ⟨b, y1, e21, F.2.1 g y3, mv_W_V y4 (fun k a c => V k (by omega))⟩, ⟨i5, i6⟩, mpP_V bN.1 K rfl rfl (fun q a => V2 q (by omega)), mSh_V bN.2.1 K rfl rfl (fun q a b => V2 q (by omega)), mBx_V bN.2.2.1 K rfl (fun q a => V q (by omega)), mv_W_V bN.2.2.2 (fun q a b => V q (by omega))⟩
  refine ps_monoI (ps_andlI (cr_201 hX bF) B2 (fun v w a1 a2 r1 r2 z => ?_)) (fun v2 s2 z => ?_)
  · rcases z with ⟨hh, pp, z1, z2, z3, z4, z5⟩ | ⟨hh, pl, k, z1, z2, z3, z4, z5⟩
    · exact Or.inl ⟨hh, pp, z1, z2, TRm_det r2 r1 z3, f5t_det r1 r2 z4, EXm_det r2 r1 z5⟩
    · exact Or.inr ⟨hh, pl, k, z1, z2, TRm_det r2 r1 z3, f5t_det r1 r2 z4, EXm_det r2 r1 z5⟩
  obtain ⟨R, m2⟩ := z
  rcases c1 with ⟨ha, pa, ga, ea, ca, fa, xa⟩ | ⟨ha, pa, ka, ga, ea, ca, fa, xa⟩ <;> rcases m2 with ⟨hb', pb, gb, eb, mb, fb, xb⟩ | ⟨hb', pb, kb, gb, eb, mb, fb, xb⟩
  · have e := gt_det ga gb rfl rfl
    cases e
    exact ⟨Int32.toInt_inj.mp (by rw [ea, eb]), 0, FMk R ca xa mb (BTh_go ga) xb EXp_0 (ff_eq fa fb)⟩
  · have e := gt_det ga gb rfl rfl
    cases e
  · have e := gt_det ga gb rfl rfl
    cases e
  · have e := gt_det ga gb rfl rfl
    cases e
    exact ⟨Int32.toInt_inj.mp (by rw [ea, eb]), 0, FMk R ca xa mb aB xb aP (ff_eq fa fb)⟩
theorem FP_4 {s : ps_S} {t : Int32} (h : FSt s t) : ps_Cl 299 153 [.ref 0] s (ps_rI (fun v s1 => ps_Cl 299 240 [.ref 1131] s1 (ps_rI (fun v2 s2 => v = v2 ∧ ∃ t2, FSt s2 t2)))) := by
  obtain ⟨g, l, p, p', D, c, Θ, B, nl, A⟩ := FSt_to h
  obtain ⟨aI, aF, aC, aM, aB, aX, aN, aP, aE⟩ := id A
  obtain ⟨⟨q4, q5, hp⟩, xP, xS, xB, xW, xu, xv⟩ := id aX
  have hp1 : p = 50 ∨ p = 460 := by omega
  have hb := LI_t aI
  have e0 : ps_i s 0 1 = t := aI.2.1.2.1
  have hth := aF.2.2.2.2.1
  have wf := (WF_of (LI_LX aI) aM).1
  have hp2 : p' = 50 ∨ p' = 460 := by omega
  have W12 : cv_W s (p' + 12) [] := by
    rcases hp2 with e | e
    · rw [e]
      exact xu
    · rw [e]
      exact xv
  refine ps_monoI (ps_andlI (g := fun v s1 => (∃ (L : List tp_P) (cc : tp_P) (fr : List (List Nat)) (q : Nat) (D' : List tq_R) (c' : Nat), gt_go (pv_st (TT s) t.toInt.toNat g) pv_C0 (3, (L, cc), fr, q, 0) ∧ (∀ (k : Nat) (st : tp_P), L[k]? = some st → tp_G g.1 g.2.length st) ∧ tq_run g Θ L [] = (D', c') ∧ tq_GD g.1 D' ∧ v.toInt = D'.length ∧ ((ps_i s1 902 9).toInt = 0 ∧ (ps_i s1 902 10).toInt = -1) ∧ EXc s1 p' p D' c' Θ B nl) ∨ (∃ (X : List tp_P × tp_P) (fr : List (List Nat)) (pl k : Nat), gt_go (pv_st (TT s) t.toInt.toNat g) pv_C0 (4, X, fr, pl, k) ∧ v.toInt = -1 ∧ ((ps_i s1 902 9).toInt = k ∧ (ps_i s1 902 10).toInt = pl) ∧ EXc s1 p p' D c Θ B nl)) (cx_153 aI aF) (fun n => fs_153 (th := ps_r s 0 2) (T := TT s) (N := t.toInt.toNat) hp2 hth rfl q4 q5 aP.1.2.1 wf aC.1 xS W12 (by rw [e0]; omega) (by omega) (fun k _ => bytes_T) aF.2.1 (fun v s' z => ?_)) (fun v w s1 s2 r1 r2 z => ?_)) (fun v s1 z => ?_)
  · rcases z with ⟨L, cc, fr, q, D', c', g1, g2, g3, g4, P', ev, ef, er, F⟩ | ⟨X, fr, pl, k, g1, ev, ef, er, F⟩
    · exact Or.inl ⟨L, cc, fr, q, D', c', g1, g2, g3, g4, ev, ef, ⟨er.1, er.2, by omega⟩, P', cSh_cfr xS F (fun q a b z => by unfold CTP CPF at z; omega), cBx_cfr xB F (fun q a b z => by unfold CTP CPF at z; omega), cv_W_cfr xW F (fun z => by unfold CTP CPF at z; omega) (fun z => by unfold CTP CPF at z; omega), cv_W_cfr xu F (fun z => by unfold CTP CPF at z; omega) (fun z => by unfold CTP CPF at z; omega), cv_W_cfr xv F (fun z => by unfold CTP CPF at z; omega) (fun z => by unfold CTP CPF at z; omega)⟩
    · exact Or.inr ⟨X, fr, pl, k, g1, ev, ef, ⟨er.1, er.2, hp⟩, cpP_cfr hp1 xP F (fun q a b z => by unfold CTP at z; omega), cSh_cfr xS F (fun q a b z => by unfold CTP at z; omega), cBx_cfr xB F (fun q a b z => by unfold CTP at z; omega), cv_W_cfr xW F (fun z => by unfold CTP at z; omega) (fun z => by unfold CTP at z; omega), cv_W_cfr xu F (fun z => by unfold CTP at z; omega) (fun z => by unfold CTP at z; omega), cv_W_cfr xv F (fun z => by unfold CTP at z; omega) (fun z => by unfold CTP at z; omega)⟩
  · rcases z with ⟨L, cc, fr, q, D', c', g1, g2, g3, g4, ev, ef, x1⟩ | ⟨X, fr, pl, k, g1, ev, ef, x1⟩
    · exact Or.inl ⟨L, cc, fr, q, D', c', g1, g2, g3, g4, ev, f9t_det r1 r2 ef, EXc_det r2 r1 x1⟩
    · exact Or.inr ⟨X, fr, pl, k, g1, ev, f9t_det r1 r2 ef, EXc_det r2 r1 x1⟩
  obtain ⟨J, e⟩ := z
  have hX : LX s1 0 t.toInt := LI_x aI J.1
  have bF : LF s1 0 := LF_k aF J (by unfold C153; omega) (by unfold C153; omega) (by unfold C153; omega) (by rw [Int32.toInt_zero]; exact hb.1)
  have bC := TRc_x aC J (fun q a => by unfold C153; omega)
  have bM := TRm_x aM J.1
  have bN := EXm_x aN J.1
  have hG : ∀ (L : List tp_P) (c : tp_P) (fr : List (List Nat)) (q : Nat), gt_go (pv_st (TT s) t.toInt.toNat g) pv_C0 (3, (L, c), fr, q, 0) → ∀ (k : Nat) (st : tp_P), L[k]? = some st → tp_G g.1 g.2.length st := by
    intro L2 c2 fr2 q2 h2
    rcases e with ⟨L, cc, fr, q, D', c', g1, g2, -⟩ | ⟨⟨X1, X2⟩, fr, pl, k, g1, -⟩
    · have e := gt_det g1 h2 rfl rfl
      cases e
      exact g2
    · have e := gt_det g1 h2 rfl rfl
      cases e
  refine ps_monoI (ps_andlI (g := fun v s2 => (∃ (L : List tp_P) (cc : tp_P) (fr : List (List Nat)) (q : Nat) (D' : List tq_R) (c' : Nat), gt_go (pv_st (TT s) t.toInt.toNat g) pv_C0 (3, (L, cc), fr, q, 0) ∧ tq_run g Θ L [] = (D', c') ∧ v.toInt = D'.length ∧ ((ps_i s2 1131 5).toInt = 0 ∧ (ps_i s2 1131 6).toInt = -1) ∧ TRm s2 g l ∧ EXm s2 D' c' Θ B nl) ∨ (∃ (X : List tp_P × tp_P) (fr : List (List Nat)) (pl k : Nat), gt_go (pv_st (TT s) t.toInt.toNat g) pv_C0 (4, X, fr, pl, k) ∧ v.toInt = -1 ∧ ((ps_i s2 1131 5).toInt = k ∧ (ps_i s2 1131 6).toInt = pl) ∧ TRm s2 g l ∧ EXm s2 D c Θ B nl)) (cr_240 hX bF) (fun n => ?_) (fun v w a1 a2 r1 r2 z => ?_)) (fun v2 s2 z2 => ?_)
  · obtain ⟨b, y1, y2, y3, y4⟩ := id bM
    have h3 := hX.2.2.1
    refine fm_240 (b := b) (T := TT s) (N := t.toInt.toNat) y1 y2 (by omega) (by omega) (fun k hk => ?_) y3 aP.1.2.1 wf bN.2.1 hG (fun v s' z => ?_)
    · rw [(J.1.2.2 1132 (by decide)).2.2.1, ← aF.1 k (by omega)]
      exact bytes_T
    · rcases z with ⟨L, cc, fr, q, D', c', g1, g3, g4, P', ev, mG, K, V⟩ | ⟨X, fr, pl, k, g1, ev, ef, K, V⟩
      · exact Or.inl ⟨L, cc, fr, q, D', c', g1, g3, ev, mG, TRm_n bM K.1 rfl rfl (fun q a => V q (by omega)), P', mSh_V bN.2.1 K rfl rfl (fun q a b => V q (by omega)), mBx_V bN.2.2.1 K rfl (fun q a => V q (by omega)), mv_W_V bN.2.2.2 (fun q a b => V q (by omega))⟩
      · exact Or.inr ⟨X, fr, pl, k, g1, ev, ef, TRm_n bM K.1 rfl rfl (fun q a => V q (by omega)), EXm_V bN K rfl rfl (fun q a => V q (by omega))⟩
  · rcases z with ⟨L, cc, fr, q, D', c', g1, g3, ev, ef, z3, x1⟩ | ⟨X, fr, pl, k, g1, ev, ef, z3, x1⟩
    · exact Or.inl ⟨L, cc, fr, q, D', c', g1, g3, ev, f5t_det r1 r2 ef, TRm_det r2 r1 z3, EXm_det r2 r1 x1⟩
    · exact Or.inr ⟨X, fr, pl, k, g1, ev, f5t_det r1 r2 ef, TRm_det r2 r1 z3, EXm_det r2 r1 x1⟩
  obtain ⟨R, e2⟩ := z2
  rcases e with ⟨L, cc, fr, q, D1, c1, g1, g2, g3, g4, ev, ef, bX⟩ | ⟨⟨X1, X2⟩, fr, pl, k, g1, ev, ef, bX⟩ <;> rcases e2 with ⟨L2, cc2, fr2, q2, D2, c2, h1, h3, dv, df, m2, n2⟩ | ⟨⟨Y1, Y2⟩, fr2, pl2, k2, h1, dv, df, m2, n2⟩
  · have e := gt_det g1 h1 rfl rfl
    cases e
    have e := g3.symm.trans h3
    cases e
    exact ⟨Int32.toInt_inj.mp (ev.trans dv.symm), 0, FMk R bC bX m2 aB n2 ⟨⟨g4, aP.1.2.1, aP.1.2.2.1, fun k R hk j hj hj2 => tq_run_bt aP.1.2.1.1 hj hj2 g3 (fun k R hk => by cases hk) k R hk⟩, aP.2⟩ (ff_eq ef df)⟩
  · have e := gt_det g1 h1 rfl rfl
    cases e
  · have e := gt_det g1 h1 rfl rfl
    cases e
  · have e := gt_det g1 h1 rfl rfl
    cases e
    exact ⟨Int32.toInt_inj.mp (ev.trans dv.symm), 0, FMk R bC bX m2 aB n2 aP (ff_eq ef df)⟩
/-- the start -/
theorem s1_FSt : FSt ps_s1 0 := by
  have e2 : ps_r ps_s1 0 2 = 2 := by decide +kernel
  have e3 : ps_r ps_s1 0 3 = 26 := by decide +kernel
  have hb : cv_base ps_s1 2 := s1_LF.2.2.1
  refine ⟨s1_LI, s1_LF, (([], []), []), [], 50, 460, [], 0, [], (fun _ => none), [], ⟨?_, Or.inl ⟨e2, e3⟩, ⟨by decide +kernel, by decide +kernel, Nat.zero_le _, (fun k c hk => by cases hk)⟩⟩, ⟨(ps_i ps_s1 1131 21).toInt.toNat, by decide +kernel, by decide +kernel, ?_, ⟨by decide +kernel, Nat.zero_le _, (fun k c hk => by cases hk)⟩⟩, BTh_0, ⟨⟨by decide +kernel, by decide +kernel, Or.inl ⟨rfl, rfl⟩⟩, ⟨⟨Nat.zero_le _, (fun k c hk => by cases hk)⟩, by decide +kernel, by decide +kernel⟩, ⟨by decide +kernel, Nat.zero_le _, (fun k c hk => by cases hk)⟩, (fun k hk => ⟨(fun Θ hΘ => by cases hΘ), fun _ => ?_⟩), ⟨by decide +kernel, by decide +kernel, Nat.zero_le _, (fun k c hk => by cases hk)⟩, ⟨by decide +kernel, by decide +kernel, Nat.zero_le _, (fun k c hk => by cases hk)⟩, ⟨by decide +kernel, by decide +kernel, Nat.zero_le _, (fun k c hk => by cases hk)⟩⟩, ⟨⟨⟨Nat.zero_le _, (fun k c hk => by cases hk)⟩, by decide +kernel, (fun _ => ⟨by decide +kernel, by decide +kernel⟩), (fun z => absurd rfl z)⟩, ⟨by decide +kernel, Nat.zero_le _, (fun k c hk => by cases hk)⟩, (fun k hk => ⟨(fun Θ hΘ => by cases hΘ), fun _ => ?_⟩), ⟨by decide +kernel, Nat.zero_le _, (fun k c hk => by cases hk)⟩⟩, EXp_0, by decide +kernel, by decide +kernel⟩
  · rw [e2]
    exact ⟨⟨by decide +kernel, by decide +kernel, Nat.zero_le _, Nat.zero_le _, (fun k w a hk => by cases hk), (fun k w a hk => by cases hk), hb, (fun w m1 _ => by cases m1)⟩, by decide +kernel, Nat.zero_le _, (fun k w l hk => by cases hk)⟩
  · exact ⟨⟨by decide +kernel, by decide +kernel, Nat.zero_le _, Nat.zero_le _, (fun k w a hk => by cases hk), (fun k w a hk => by cases hk)⟩, by decide +kernel, Nat.zero_le _, (fun k w l hk => by cases hk)⟩
  · have h : ∀ i : Fin 3, ps_i ps_s1 (1038 + 31 * i.val) 6 = 0 := by decide +kernel
    exact h ⟨k, hk⟩
  · have h : ∀ i : Fin 3, (ps_a ps_s1 1176 i.val).toInt = -1 := by decide +kernel
    exact h ⟨k, hk⟩
