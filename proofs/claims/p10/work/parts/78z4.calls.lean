set_option maxRecDepth 100000
/-! calls that change the state, on both sides -/
section F5
variable {w : pm_W} {s s' : ps_S}
theorem f5_det (r1 : ps_R w s) (r2 : ps_R w s') {a b : Int32} (z : ps_i s' 1131 5 = a ∧ ps_i s' 1131 6 = b) : ps_i s 1131 5 = a ∧ ps_i s 1131 6 = b := ⟨(det_f r1 r2).2.2.1.trans z.1, (det_f r1 r2).2.2.2.trans z.2⟩
theorem f5t_det (r1 : ps_R w s) (r2 : ps_R w s') {a b : Int} (z : (ps_i s' 1131 5).toInt = a ∧ (ps_i s' 1131 6).toInt = b) : (ps_i s 1131 5).toInt = a ∧ (ps_i s 1131 6).toInt = b := by
  rw [(det_f r1 r2).2.2.1, (det_f r1 r2).2.2.2]
  exact z
theorem f9t_det (r1 : ps_R w s) (r2 : ps_R w s') {a b : Int} (z : (ps_i s' 902 9).toInt = a ∧ (ps_i s' 902 10).toInt = b) : (ps_i s 902 9).toInt = a ∧ (ps_i s 902 10).toInt = b := by
  rw [(det_f r1 r2).1, (det_f r1 r2).2.1]
  exact z
theorem ff_eq {a b : Int} (x : (ps_i s 902 9).toInt = a ∧ (ps_i s 902 10).toInt = b) (y : (ps_i s' 1131 5).toInt = a ∧ (ps_i s' 1131 6).toInt = b) : ps_i s 902 9 = ps_i s' 1131 5 ∧ ps_i s 902 10 = ps_i s' 1131 6 := ⟨Int32.toInt_inj.mp (x.1.trans y.1.symm), Int32.toInt_inj.mp (x.2.trans y.2.symm)⟩
end F5
theorem FP_9 {s : ps_S} {t : Int32} (h : FSt s t) : ps_Cl 299 158 [.ref 0] s (ps_rI (fun v s1 => ps_Cl 299 268 [.ref 1131] s1 (ps_rI (fun v2 s2 => v = v2 ∧ ∃ t2, FSt s2 t2)))) := by
  obtain ⟨g, l, p, p', D, c, Θ, B, nl, A⟩ := FSt_to h
  obtain ⟨aI, aF, aC, aM, aB, aX, aN, aP, aE⟩ := id A
  obtain ⟨⟨q4, q5, hp⟩, xP, xS, xB, xW, xu, xv⟩ := id aX
  have hp1 : p = 50 ∨ p = 460 := by omega
  have hb := LI_t aI
  refine ps_monoI (ps_andlI (g := fun v s1 => ∃ Θ', kp_is D c Θ v Θ' ∧ cSh s1 870 Θ') (cx_158 aI aF) (fun n => fs_158 hp1 q4 xP xS (fun v s' Θ' z1 z2 _ => ⟨Θ', z1, z2⟩)) (fun v w s1 s2 r1 r2 z => by
    obtain ⟨Θ', z1, z2⟩ := z
    exact ⟨Θ', z1, cSh_det r2 r1 (Or.inl rfl) z2⟩)) (fun v s1 z => ?_)
  obtain ⟨J, Θ', e, S1⟩ := z
  have F := J.2.1
  have bI : LI s1 t := LX_LI (LI_x aI J.1) rfl
  have bF : LF s1 t := LF_k aF J (by unfold C158; omega) (by unfold C158; omega) (by unfold C158; omega) (Int.le_refl _)
  have bC := TRc_x aC J (fun q a => by unfold C158; omega)
  have bM := TRm_x aM J.1
  have bN := EXm_x aN J.1
  have bE := EXf_x J (by unfold C158; omega) aE
  have n0 : ¬ C158 0 := by unfold C158; omega
  have bX : EXc s1 p p' D c Θ' B nl := ⟨⟨((F 0 n0).2.2.1 4).trans q4, ((F 0 n0).2.2.1 5).trans q5, hp⟩, cpP_cfr hp1 xP F (fun q a b => by unfold C158; omega), S1, cBx_cfr xB F (fun q a b => by unfold C158; omega), cv_W_cfr xW F (by unfold C158; omega) (by unfold C158; omega), cv_W_cfr xu F (by unfold C158; omega) (by unfold C158; omega), cv_W_cfr xv F (by unfold C158; omega) (by unfold C158; omega)⟩
  refine ps_monoI (ps_andlI (g := fun v s2 => ∃ Θ2, kp_is D c Θ v Θ2 ∧ TRm s2 g l ∧ EXm s2 D c Θ2 B nl ∧ (ps_i s2 1131 5 = ps_i s1 1131 5 ∧ ps_i s2 1131 6 = ps_i s1 1131 6)) (cr_268 bI bF) (fun n => fm_268 bN.1 bN.2.1 (fun v s' Θ2 z1 z2 K V => ⟨Θ2, z1, TRm_n bM K.1 rfl rfl (fun q a => V q (by omega)), ⟨mpP_V bN.1 K rfl rfl (fun q a => V q (by omega)), z2, mBx_V bN.2.2.1 K rfl (fun q a => V q (by omega)), mv_W_V bN.2.2.2 (fun q a b => V q (by omega))⟩, kq_i K 5 rfl, kq_i K 6 rfl⟩)) (fun v w a1 a2 r1 r2 z => by
    obtain ⟨Θ2, z1, z2, z3, z4⟩ := z
    exact ⟨Θ2, z1, TRm_det r2 r1 z2, EXm_det r2 r1 z3, f5_det r1 r2 z4⟩)) (fun v2 s2 z2 => ?_)
  obtain ⟨R, Θ2, e2, m2, n2, f2⟩ := z2
  obtain ⟨ev, eT⟩ := kp_eq e e2
  subst eT
  exact ⟨ev, t, FMk R bC bX m2 aB n2 (EXp_keep aP e) ⟨bE.1.trans f2.1.symm, bE.2.trans f2.2.symm⟩⟩
theorem FP_12 {s : ps_S} {t : Int32} (h : FSt s t) : ps_Cl 299 161 [.ref 0] s (ps_rI (fun v s1 => ps_Cl 299 273 [.ref 1131] s1 (ps_rI (fun v2 s2 => v = v2 ∧ ∃ t2, FSt s2 t2)))) := by
  obtain ⟨g, l, p, p', D, c, Θ, B, nl, A⟩ := FSt_to h
  obtain ⟨aI, aF, aC, aM, aB, aX, aN, aP, aE⟩ := id A
  obtain ⟨⟨q4, q5, hp⟩, xP, xS, xB, xW, xu, xv⟩ := id aX
  have hp1 : p = 50 ∨ p = 460 := by omega
  have hb := LI_t aI
  refine ps_monoI (ps_andlI (g := fun v s1 => (Θ = [] ∧ v.toInt = -1 ∧ EXc s1 p p' D c Θ B nl) ∨ (Θ ≠ [] ∧ v.toInt = (Θ.length - 1 : Nat) ∧ EXc s1 p p' [] 0 (Θ.take (Θ.length - 1)) B nl)) (cx_161 aI aF) (fun n => fs_161 hp1 q4 xS (fun z => Or.inl ⟨z, by decide, aX⟩) (fun v s' z1 z2 z3 z4 z5 F => Or.inr ⟨z1, z2, ⟨(congrFun (congrFun z5 0) 4).trans q4, (congrFun (congrFun z5 0) 5).trans q5, hp⟩, z4, z3, cBx_cfr xB F (fun q a b z => by omega), cv_W_cfr xW F (fun z => by omega) (fun z => by omega), cv_W_cfr xu F (fun z => by omega) (fun z => by omega), cv_W_cfr xv F (fun z => by omega) (fun z => by omega)⟩)) (fun v w s1 s2 r1 r2 z => by
    rcases z with ⟨z1, z2, z3⟩ | ⟨z1, z2, z3⟩
    · exact Or.inl ⟨z1, z2, EXc_det r2 r1 z3⟩
    · exact Or.inr ⟨z1, z2, EXc_det r2 r1 z3⟩)) (fun v s1 z => ?_)
  obtain ⟨J, e⟩ := z
  have bI : LI s1 t := LX_LI (LI_x aI J.1) rfl
  have bF : LF s1 t := LF_k aF J (by unfold C161; omega) (by unfold C161; omega) (by unfold C161; omega) (Int.le_refl _)
  have bC := TRc_x aC J (fun q a => by unfold C161; omega)
  have bM := TRm_x aM J.1
  have bN := EXm_x aN J.1
  have bE := EXf_x J (by unfold C161; omega) aE
  refine ps_monoI (ps_andlI (g := fun v s2 => ((Θ = [] ∧ v.toInt = -1 ∧ EXm s2 D c Θ B nl) ∨ (Θ ≠ [] ∧ v.toInt = (Θ.length - 1 : Nat) ∧ EXm s2 [] 0 (Θ.take (Θ.length - 1)) B nl)) ∧ TRm s2 g l ∧ (ps_i s2 1131 5 = ps_i s1 1131 5 ∧ ps_i s2 1131 6 = ps_i s1 1131 6)) (cr_273 bI bF) (fun n => fm_273 bN.2.1 (fun z => ⟨Or.inl ⟨z, by decide, bN⟩, bM, rfl, rfl⟩) (fun v s' z1 z2 z3 z4 K => ⟨Or.inr ⟨z1, z2, z4, z3, mBx_V bN.2.2.1 K rfl (fun q _ => by rw [kq_a K 1134 rfl]), mv_W_V bN.2.2.2 (fun q _ _ => by rw [kq_a K 1134 rfl])⟩, TRm_n bM K.1 rfl rfl (fun q _ => by rw [kq_a K 1134 rfl]), kq_i K 5 rfl, kq_i K 6 rfl⟩)) (fun v w a1 a2 r1 r2 z => by
    obtain ⟨z, z4, z5⟩ := z
    refine ⟨?_, TRm_det r2 r1 z4, f5_det r1 r2 z5⟩
    rcases z with ⟨z1, z2, z3⟩ | ⟨z1, z2, z3⟩
    · exact Or.inl ⟨z1, z2, EXm_det r2 r1 z3⟩
    · exact Or.inr ⟨z1, z2, EXm_det r2 r1 z3⟩)) (fun v2 s2 z2 => ?_)
  obtain ⟨R, e2, m2, f2⟩ := z2
  rcases e with ⟨e1, ev, bX⟩ | ⟨e1, ev, bX⟩ <;> rcases e2 with ⟨d1, dv, n2⟩ | ⟨d1, dv, n2⟩
  · exact ⟨Int32.toInt_inj.mp (ev.trans dv.symm), t, FMk R bC bX m2 aB n2 aP ⟨bE.1.trans f2.1.symm, bE.2.trans f2.2.symm⟩⟩
  · exact absurd e1 d1
  · exact absurd d1 e1
  · exact ⟨Int32.toInt_inj.mp (ev.trans dv.symm), t, FMk R bC bX m2 aB n2 (EXp_drop aP (by omega)) ⟨bE.1.trans f2.1.symm, bE.2.trans f2.2.symm⟩⟩
theorem FP_27 {s : ps_S} {t : Int32} {x1 : Int32} (h : FSt s t) : ps_Cl 299 176 [.ref 0, .int x1] s (ps_rI (fun v s1 => ps_Cl 299 305 [.ref 1131, .int x1] s1 (ps_rI (fun v2 s2 => v = v2 ∧ ∃ t2, FSt s2 t2)))) := by
  obtain ⟨g, l, p, p', D, c, Θ, B, nl, A⟩ := FSt_to h
  obtain ⟨aI, aF, aC, aM, aB, aX, aN, aP, aE⟩ := id A
  obtain ⟨⟨q4, q5, hp⟩, xP, xS, xB, xW, xu, xv⟩ := id aX
  have hp1 : p = 50 ∨ p = 460 := by omega
  have hb := LI_t aI
  refine ps_monoI (ps_andlI (g := fun v s1 => ∃ B', im_is x1 Θ B v B' ∧ EXc s1 p p' D c Θ B' nl) (cx_176 aI aF) (fun n => fs_176 xS xB (fun v s' B' z1 z2 z3 F => ⟨B', z1, ⟨((F 0 (fun z => by omega)).2.2.1 4).trans q4, ((F 0 (fun z => by omega)).2.2.1 5).trans q5, hp⟩, cpP_cfr hp1 xP F (fun q a b z => by omega), z2, z3, cv_W_cfr xW F (fun z => by omega) (fun z => by omega), cv_W_cfr xu F (fun z => by omega) (fun z => by omega), cv_W_cfr xv F (fun z => by omega) (fun z => by omega)⟩)) (fun v w s1 s2 r1 r2 z => by
    obtain ⟨B', z1, z2⟩ := z
    exact ⟨B', z1, EXc_det r2 r1 z2⟩)) (fun v s1 z => ?_)
  obtain ⟨J, B', e, bX⟩ := z
  have bI : LI s1 t := LX_LI (LI_x aI J.1) rfl
  have bF : LF s1 t := LF_k aF J (by unfold C176; omega) (by unfold C176; omega) (by unfold C176; omega) (Int.le_refl _)
  have bC := TRc_x aC J (fun q a => by unfold C176; omega)
  have bM := TRm_x aM J.1
  have bN := EXm_x aN J.1
  have bE := EXf_x J (by unfold C176; omega) aE
  refine ps_monoI (ps_andlI (g := fun v s2 => ∃ B2, im_is x1 Θ B v B2 ∧ TRm s2 g l ∧ EXm s2 D c Θ B2 nl ∧ (ps_i s2 1131 5 = ps_i s1 1131 5 ∧ ps_i s2 1131 6 = ps_i s1 1131 6)) (cr_305 bI bF) (fun n => fm_305 bN.2.1 bN.2.2.1 (fun v s' B2 z1 z2 K V => ⟨B2, z1, TRm_n bM K.1 rfl rfl (fun q a => V q (by omega)), ⟨mpP_V bN.1 K rfl rfl (fun q a => V q (by omega)), mSh_V bN.2.1 K rfl rfl (fun q a b => V q (by omega)), z2, mv_W_V bN.2.2.2 (fun q a b => V q (by omega))⟩, kq_i K 5 rfl, kq_i K 6 rfl⟩)) (fun v w a1 a2 r1 r2 z => by
    obtain ⟨B2, z1, z2, z3, z4⟩ := z
    exact ⟨B2, z1, TRm_det r2 r1 z2, EXm_det r2 r1 z3, f5_det r1 r2 z4⟩)) (fun v2 s2 z2 => ?_)
  obtain ⟨R, B2, e2, m2, n2, f2⟩ := z2
  obtain ⟨ev, eT⟩ := im_eq e e2
  subst eT
  exact ⟨ev, t, FMk R bC bX m2 aB n2 (EXp_image aP e) ⟨bE.1.trans f2.1.symm, bE.2.trans f2.2.symm⟩⟩
theorem FP_28 {s : ps_S} {t : Int32} {x1 : Int32} (h : FSt s t) : ps_Cl 299 177 [.ref 0, .int x1] s (ps_rI (fun v s1 => ps_Cl 299 306 [.ref 1131, .int x1] s1 (ps_rI (fun v2 s2 => v = v2 ∧ ∃ t2, FSt s2 t2)))) := by
  obtain ⟨g, l, p, p', D, c, Θ, B, nl, A⟩ := FSt_to h
  obtain ⟨aI, aF, aC, aM, aB, aX, aN, aP, aE⟩ := id A
  obtain ⟨⟨q4, q5, hp⟩, xP, xS, xB, xW, xu, xv⟩ := id aX
  have hp1 : p = 50 ∨ p = 460 := by omega
  have hb := LI_t aI
  refine ps_monoI (ps_andlI (g := fun v s1 => (∃ Θ', bk_is x1 Θ B v Θ' True ∧ EXc s1 p p' [] 0 Θ' B nl) ∨ (bk_is x1 Θ B v Θ False ∧ EXc s1 p p' D c Θ B nl)) (cx_177 aI aF) (fun n => fs_177 hp1 q4 xS xB (fun v s' Θ' z1 z2 z3 z4 z5 F => Or.inl ⟨Θ', z1, ⟨z4.trans q4, z5.trans q5, hp⟩, z3, z2, cBx_cfr xB F (fun q a b z => by omega), cv_W_cfr xW F (fun z => by omega) (fun z => by omega), cv_W_cfr xu F (fun z => by omega) (fun z => by omega), cv_W_cfr xv F (fun z => by omega) (fun z => by omega)⟩) (fun v z1 => Or.inr ⟨z1, aX⟩)) (fun v w s1 s2 r1 r2 z => by
    rcases z with ⟨Θ', z1, z2⟩ | ⟨z1, z2⟩
    · exact Or.inl ⟨Θ', z1, EXc_det r2 r1 z2⟩
    · exact Or.inr ⟨z1, EXc_det r2 r1 z2⟩)) (fun v s1 z => ?_)
  obtain ⟨J, e⟩ := z
  have bI : LI s1 t := LX_LI (LI_x aI J.1) rfl
  have bF : LF s1 t := LF_k aF J (by unfold C161; omega) (by unfold C161; omega) (by unfold C161; omega) (Int.le_refl _)
  have bC := TRc_x aC J (fun q a => by unfold C161; omega)
  have bM := TRm_x aM J.1
  have bN := EXm_x aN J.1
  have bE := EXf_x J (by unfold C161; omega) aE
  refine ps_monoI (ps_andlI (g := fun v s2 => ((∃ Θ2, bk_is x1 Θ B v Θ2 True ∧ EXm s2 [] 0 Θ2 B nl) ∨ (bk_is x1 Θ B v Θ False ∧ EXm s2 D c Θ B nl)) ∧ TRm s2 g l ∧ (ps_i s2 1131 5 = ps_i s1 1131 5 ∧ ps_i s2 1131 6 = ps_i s1 1131 6)) (cr_306 bI bF) (fun n => fm_306 bN.2.2.1 (fun v s' Θ2 z1 z2 z3 K => by
    obtain ⟨K, V⟩ := K
    exact ⟨Or.inl ⟨Θ2, z1, z3, z2, mBx_V bN.2.2.1 K rfl (fun q a => V q (by omega)), mv_W_V bN.2.2.2 (fun q a b => V q (by omega))⟩, TRm_n bM K.1 rfl rfl (fun q a => V q (by omega)), kq_i K 5 rfl, kq_i K 6 rfl⟩) (fun v z1 => ⟨Or.inr ⟨z1, bN⟩, bM, rfl, rfl⟩)) (fun v w a1 a2 r1 r2 z => by
    obtain ⟨z, z4, z5⟩ := z
    refine ⟨?_, TRm_det r2 r1 z4, f5_det r1 r2 z5⟩
    rcases z with ⟨Θ', z1, z2⟩ | ⟨z1, z2⟩
    · exact Or.inl ⟨Θ', z1, EXm_det r2 r1 z2⟩
    · exact Or.inr ⟨z1, EXm_det r2 r1 z2⟩)) (fun v2 s2 z2 => ?_)
  obtain ⟨R, e2, m2, f2⟩ := z2
  have ef : ps_i s1 902 9 = ps_i s2 1131 5 ∧ ps_i s1 902 10 = ps_i s2 1131 6 := ⟨bE.1.trans f2.1.symm, bE.2.trans f2.2.symm⟩
  rcases e with ⟨Θ1, e, bX⟩ | ⟨e, bX⟩ <;> rcases e2 with ⟨Θ2, e2, n2⟩ | ⟨e2, n2⟩
  · obtain ⟨ev, eT, -⟩ := bk_eq e e2
    subst eT
    exact ⟨ev, t, FMk R bC bX m2 aB n2 (EXp_back aP e) ef⟩
  · exact ((bk_eq e e2).2.2.mp trivial).elim
  · exact ((bk_eq e e2).2.2.mpr trivial).elim
  · exact ⟨(bk_eq e e2).1, t, FMk R bC bX m2 aB n2 aP ef⟩
theorem FP_13 {s : ps_S} {t : Int32} (h : FSt s t) : ps_Cl 299 162 [.ref 0] s (ps_rI (fun v s1 => ps_Cl 299 274 [.ref 1131] s1 (ps_rI (fun v2 s2 => v = v2 ∧ ∃ t2, FSt s2 t2)))) := by
  obtain ⟨g, l, p, p', D, c, Θ, B, nl, A⟩ := FSt_to h
  obtain ⟨aI, aF, aC, aM, aB, aX, aN, aP, aE⟩ := id A
  obtain ⟨⟨q4, q5, hp⟩, xP, xS, xB, xW, xu, xv⟩ := id aX
  have hp1 : p = 50 ∨ p = 460 := by omega
  have hb := LI_t aI
  have e0 : ps_i s 0 1 = t := aI.2.1.2.1
  refine ps_monoI (ps_andlI (g := fun v s1 => ((∃ l', rd_ok (TT s) t.toInt.toNat (g.1, false) 1 l' ∧ v.toInt = l'.length ∧ cv_W s1 934 l' ∧ ((ps_i s1 902 9).toInt = 0 ∧ (ps_i s1 902 10).toInt = -1)) ∨ (∃ k pl : Nat, rd_bad (TT s) t.toInt.toNat (g.1, false) 1 k pl ∧ v.toInt = -1 ∧ cv_W s1 934 [] ∧ ((ps_i s1 902 9).toInt = k ∧ (ps_i s1 902 10).toInt = pl))) ∧ EXc s1 p p' D c Θ B nl) (cx_162 aI aF) (fun n => fs_162f (th := ps_r s 0 2) (T := TT s) (N := t.toInt.toNat) aF.2.2.2.2.1 rfl aC.1.1 (by rw [e0]; omega) (by omega) (fun k _ => bytes_T) aF.2.1 (fun v s' l' z1 z2 z3 z4 F rr => ⟨Or.inl ⟨l', z1, z2, z3, z4⟩, EXc_cfr aX F (rr 4) (rr 5) (fun q a z => by unfold cWr at z; omega)⟩) (fun s' k pl z1 z3 z4 z5 F rr => ⟨Or.inr ⟨k, pl, z1, by decide, z3, z4, z5⟩, EXc_cfr aX F (rr 4) (rr 5) (fun q a z => by unfold cWr at z; omega)⟩)) (fun v w s1 s2 r1 r2 z => by
    obtain ⟨z, zx⟩ := z
    refine ⟨?_, EXc_det r2 r1 zx⟩
    rcases z with ⟨l', z1, z2, z3, z4⟩ | ⟨k, pl, z1, z2, z3, z4⟩
    · exact Or.inl ⟨l', z1, z2, cv_W_det r2 r1 (by decide) rfl rfl z3, f9t_det r1 r2 z4⟩
    · exact Or.inr ⟨k, pl, z1, z2, cv_W_det r2 r1 (by decide) rfl rfl z3, f9t_det r1 r2 z4⟩)) (fun v s1 z => ?_)
  obtain ⟨J, e, bX⟩ := z
  have hX : LX s1 0 t.toInt := LI_x aI J.1
  have bF : LF s1 0 := LF_k aF J (by unfold C162; omega) (by unfold C162; omega) (by unfold C162; omega) (by rw [Int32.toInt_zero]; exact hb.1)
  have bC := aC.1
  have bM := TRm_x aM J.1
  have bN := EXm_x aN J.1
  have c1a : cv_H s1 (ps_r s1 0 2) g ∧ ((ps_r s1 0 2 = 2 ∧ ps_r s1 0 3 = 26) ∨ (ps_r s1 0 2 = 26 ∧ ps_r s1 0 3 = 2)) := by
    obtain ⟨d1, d2, d3⟩ := aC
    have hl := d1.2.2.1
    obtain ⟨-, F, ⟨r2, r3⟩, -⟩ := J
    exact ⟨by rw [r2]; exact cv_H_cfr d1 F (fun q a b => by unfold C162; omega), by rw [r2, r3]; exact d2⟩
  refine ps_monoI (ps_andlI (g := fun v s2 => ((∃ l', rd_ok (TT s) t.toInt.toNat (g.1, false) 1 l' ∧ v.toInt = l'.length ∧ TRm s2 g l' ∧ ((ps_i s2 1131 5).toInt = 0 ∧ (ps_i s2 1131 6).toInt = -1)) ∨ (∃ k pl : Nat, rd_bad (TT s) t.toInt.toNat (g.1, false) 1 k pl ∧ v.toInt = -1 ∧ TRm s2 g [] ∧ ((ps_i s2 1131 5).toInt = k ∧ (ps_i s2 1131 6).toInt = pl))) ∧ EXm s2 D c Θ B nl) (cr_274 hX bF) (fun n => by
    obtain ⟨b, y1, y2, y3, y4⟩ := id bM
    have h3 := hX.2.2.1
    refine fm_274 (b := b) (T := TT s) (N := t.toInt.toNat) y1 y2 y3.1 (by omega) (by omega) (fun k hk => ?_) (fun v s2 l' z1 z2 z3 z4 => ?_) (fun s2 z3 z4 => ?_)
    · rw [(J.1.2.2 1132 (by decide)).2.2.1, ← aF.1 k (by omega)]
      exact bytes_T
    · obtain ⟨⟨l2, -, -, mG⟩, K, V, -⟩ := z4
      exact ⟨Or.inl ⟨l', z1, z2, TRm_po bM K V z3, mG⟩, EXm_V bN K rfl rfl (fun q a => V q (by omega))⟩
    · obtain ⟨⟨k, pl, z1, -, i5, i6⟩, K, V, -⟩ := z4
      exact ⟨Or.inr ⟨k, pl, z1, by decide, TRm_po bM K V z3, i5, i6⟩, EXm_V bN K rfl rfl (fun q a => V q (by omega))⟩) (fun v w a1 a2 r1 r2 z => by
    obtain ⟨z, zx⟩ := z
    refine ⟨?_, EXm_det r2 r1 zx⟩
    rcases z with ⟨l', z1, z2, z3, z4⟩ | ⟨k, pl, z1, z2, z3, z4⟩
    · exact Or.inl ⟨l', z1, z2, TRm_det r2 r1 z3, f5t_det r1 r2 z4⟩
    · exact Or.inr ⟨k, pl, z1, z2, TRm_det r2 r1 z3, f5t_det r1 r2 z4⟩)) (fun v2 s2 z2 => ?_)
  obtain ⟨R, e2, n2⟩ := z2
  rcases e with ⟨la, ga, ea, ca, fa⟩ | ⟨ka, pa, ga, ea, ca, fa⟩ <;> rcases e2 with ⟨lb, gb, eb, mb, fb⟩ | ⟨kb, pb, gb, eb, mb, fb⟩
  · have e := rd_oo ga gb
    subst e
    exact ⟨Int32.toInt_inj.mp (by rw [ea, eb]), 0, FMk R ⟨c1a.1, c1a.2, ca⟩ bX mb aB n2 aP (ff_eq fa fb)⟩
  · exact (rd_ob ga gb).elim
  · exact (rd_ob gb ga).elim
  · obtain ⟨e1, e2⟩ := rd_bb ga gb
    rw [← e1, ← e2] at fb
    exact ⟨Int32.toInt_inj.mp (by rw [ea, eb]), 0, FMk R ⟨c1a.1, c1a.2, ca⟩ bX mb aB n2 aP (ff_eq fa fb)⟩
theorem FP_20 {s : ps_S} {t : Int32} (h : FSt s t) : ps_Cl 299 169 [.ref 0] s (ps_rI (fun v s1 => ps_Cl 299 288 [.ref 1131] s1 (ps_rI (fun v2 s2 => v = v2 ∧ ∃ t2, FSt s2 t2)))) := by
  obtain ⟨g, l, p, p', D, c, Θ, B, nl, A⟩ := FSt_to h
  obtain ⟨aI, aF, aC, aM, aB, aX, aN, aP, aE⟩ := id A
  obtain ⟨⟨q4, q5, hp⟩, xP, xS, xB, xW, xu, xv⟩ := id aX
  have hp1 : p = 50 ∨ p = 460 := by omega
  have hb := LI_t aI
  have e0 : ps_i s 0 1 = t := aI.2.1.2.1
  have wf := (WF_of (LI_LX aI) aM).1
  have hlo : ∀ (k : Nat) (w r : List Nat), g.2[k]? = some (w, r) → ∀ c, c ∈ r → 40 ≤ c → c < 45 := fun k w r hk c hc h40 => by
    have b := aB.2.2 k w r hk
    have wv := wf.2.2 k w r hk
    have := bc_lo (arh_k wf.1 wf.2.1) wv.1 b.1 rfl c hc h40 (wv.2.2 c hc)
    omega
  refine ps_monoI (ps_andlI (g := fun v s1 => ∃ nl', RWF g (TT s) t.toInt.toNat v nl' (ps_i s1 902 9).toInt (ps_i s1 902 10).toInt ∧ EXc s1 p p' D c Θ B nl') (cx_169 aI aF) (fun n => fs_169f (T := TT s) (N := t.toInt.toNat) aC wf hlo (by rw [e0]; omega) (by omega) (fun k _ => bytes_T) aF.2.1 (fun v s' nl' z1 z2 z3 F => ⟨nl', z1, ⟨z3.1.trans q4, z3.2.trans q5, hp⟩, cpP_cfr hp1 xP F (fun q a b z => by unfold cWr CMN at z; omega), cSh_cfr xS F (fun q a b z => by unfold cWr CMN at z; omega), cBx_cfr xB F (fun q a b z => by unfold cWr CMN at z; omega), z2, cv_W_cfr xu F (fun z => by unfold cWr CMN at z; omega) (fun z => by unfold cWr CMN at z; omega), cv_W_cfr xv F (fun z => by unfold cWr CMN at z; omega) (fun z => by unfold cWr CMN at z; omega)⟩)) (fun v w s1 s2 r1 r2 z => by
    obtain ⟨nl', z1, z2⟩ := z
    exact ⟨nl', by rw [(det_f r1 r2).1, (det_f r1 r2).2.1]; exact z1, EXc_det r2 r1 z2⟩)) (fun v s1 z => ?_)
  obtain ⟨J, nl1, e, bX⟩ := z
  have hX : LX s1 0 t.toInt := LI_x aI J.1
  have bF : LF s1 0 := LF_k aF J (by unfold C169; omega) (by unfold C169; omega) (by unfold C169; omega) (by rw [Int32.toInt_zero]; exact hb.1)
  have bC := TRc_x aC J (fun q a => by unfold C169; omega)
  have bM := TRm_x aM J.1
  have bN := EXm_x aN J.1
  refine ps_monoI (ps_andlI (g := fun v s2 => ∃ nl', RWF g (TT s) t.toInt.toNat v nl' (ps_i s2 1131 5).toInt (ps_i s2 1131 6).toInt ∧ TRm s2 g l ∧ EXm s2 D c Θ B nl') (cr_288 hX bF) (fun n => by
    obtain ⟨b, y1, y2, y3, y4⟩ := id bM
    have h3 := hX.2.2.1
    refine fm_288f (b := b) (T := TT s) (N := t.toInt.toNat) y1 y2 y3 wf (by omega) (by omega) (fun k hk => ?_) (fun v s' nl' z1 z2 z3 => ?_)
    · rw [(J.1.2.2 1132 (by decide)).2.2.1, ← aF.1 k (by omega)]
      exact bytes_T
    · obtain ⟨K, V⟩ := z3
      exact ⟨nl', z1, TRm_n bM K.1 rfl rfl (fun q a => V q (by omega)), mpP_V bN.1 K rfl rfl (fun q a => V q (by omega)), mSh_V bN.2.1 K rfl rfl (fun q a b => V q (by omega)), mBx_V bN.2.2.1 K rfl (fun q a => V q (by omega)), z2⟩) (fun v w a1 a2 r1 r2 z => by
    obtain ⟨nl', z1, z2, z3⟩ := z
    exact ⟨nl', by rw [(det_f r1 r2).2.2.1, (det_f r1 r2).2.2.2]; exact z1, TRm_det r2 r1 z2, EXm_det r2 r1 z3⟩)) (fun v2 s2 z2 => ?_)
  obtain ⟨R, nl2, e2, m2, n2⟩ := z2
  obtain ⟨ev, eT, f1, f2⟩ := RWF_eq e e2
  subst eT
  exact ⟨ev, 0, FMk R bC bX m2 aB n2 aP ⟨Int32.toInt_inj.mp f1, Int32.toInt_inj.mp f2⟩⟩
theorem FP_22 {s : ps_S} {t : Int32} (h : FSt s t) : ps_Cl 299 171 [.ref 0] s (ps_rI (fun v s1 => ps_Cl 299 285 [.ref 1131] s1 (ps_rI (fun v2 s2 => v = v2 ∧ ∃ t2, FSt s2 t2)))) := by
  obtain ⟨g, l, p, p', D, c, Θ, B, nl, A⟩ := FSt_to h
  obtain ⟨aI, aF, aC, aM, aB, aX, aN, aP, aE⟩ := id A
  obtain ⟨⟨q4, q5, hp⟩, xP, xS, xB, xW, xu, xv⟩ := id aX
  have hp1 : p = 50 ∨ p = 460 := by omega
  have hb := LI_t aI
  have wf := (WF_of (LI_LX aI) aM).1
  refine ps_monoI (ps_andlI (g := fun v s1 => rl_A g v ∧ cv_W s1 1022 nl) (cx_171 aI aF) (fun n => fs_171f aC wf xW) (fun v w s1 s2 r1 r2 z => ⟨z.1, cv_W_det r2 r1 (by decide) rfl rfl z.2⟩)) (fun v s1 z => ?_)
  obtain ⟨J, e, W1⟩ := z
  have F := J.2.1
  have bI : LI s1 t := LX_LI (LI_x aI J.1) rfl
  have bF : LF s1 t := LF_k aF J (by unfold C171; omega) (by unfold C171; omega) (by unfold C171; omega) (Int.le_refl _)
  have bC := TRc_x aC J (fun q a => by unfold C171; omega)
  have bM := TRm_x aM J.1
  have bN := EXm_x aN J.1
  have bE := EXf_x J (by unfold C171; omega) aE
  have n0 : ¬ C171 0 := by unfold C171; omega
  have bX : EXc s1 p p' D c Θ B nl := ⟨⟨((F 0 n0).2.2.1 4).trans q4, ((F 0 n0).2.2.1 5).trans q5, hp⟩, cpP_cfr hp1 xP F (fun q a b => by unfold C171; omega), cSh_cfr xS F (fun q a b => by unfold C171; omega), cBx_cfr xB F (fun q a b => by unfold C171; omega), W1, cv_W_cfr xu F (by unfold C171; omega) (by unfold C171; omega), cv_W_cfr xv F (by unfold C171; omega) (by unfold C171; omega)⟩
  exact ps_monoI (ps_andlI (g := fun v _ => rl_A g v) (cf_285 bI bF) (fun n => fm_285 bM wf) pdet_v) (fun v2 s2 z2 => ⟨rl_A_eq e z2.2, t, FM (l := l) (p := p) (p' := p') (D := D) (c := c) (Θ := Θ) (B := B) (nl := nl) ⟨bI, bF, bC, bM, aB, bX, bN, aP, bE⟩ z2.1⟩)
