set_option maxRecDepth 100000
-- ProofBenchModel.takesPart(II)V
theorem pg_254_0 {d : Nat} {x1 : Int32} {x2 : Int32} {s : ps_S} {Q : Option Value → ps_S → Prop} (h :
  ps_Cl d 247 [.ref 1131, .int x2] s (ps_rI (fun v1 s1 =>
    (v1 = 1 →
      ps_Cl d 221 [.ref 1131, .int x2, .int 1] s1 (ps_rI (fun v2 s2 =>
        ps_nd (pm_in x1 40) (((ps_a s2 1152 (Int32.toNatClampNeg x1)) ≠ 4 →
          ps_Cl d 219 [.ref 1131, .int x2] s2 (ps_rI (fun v3 s3 =>
            ps_Cl d 226 [.ref 1131, .int x2, .int v2, .int v3] s3 (ps_rV (fun s4 =>
              Q none s4))))) ∧
        ((ps_a s2 1152 (Int32.toNatClampNeg x1)) = 4 →
          ps_Cl d 226 [.ref 1131, .int x2, .int 1, .int v2] s2 (ps_rV (fun s5 =>
            Q none s5))))))) ∧
    (v1 ≠ 1 →
      ps_Cl d 241 [.ref 1131, .int 2] s1 (ps_rV (fun s6 =>
        Q none s6)))))) : ps_At (d + 1) 254 0 [(0, .ref 1131), (1, .int x1), (2, .int x2)] [] s Q :=
  ps_wp_at (stops := []) (n := 37) h rfl

theorem ms_254 {x : Nat → Nat → Nat} {t : Int32} {s : ps_S} {d : Nat} {x1 : Int32} {x2 : Int32} {f : ps_S → Prop} (J : mJ x t s) {σ : mSig} (hS : Sg (ps_a s 1135) (ps_a s 1136) (ps_a s 1138) (ps_a s 1139) (ps_i s 1131 21).toInt σ) (hF : Fm σ (ps_a s 1134) x2.toInt) (hM : Md (ps_a s 1149) (ps_i s 1131 34).toInt ([] : List Nat)) (q3 : 0 ≤ x1.toInt) (q4 : x1.toInt < 40) (k : ∀ (s' : ps_S), mJ x t s' → kp [1149] [34, 50] s s' → (Res σ (ps_a s' 1149) (ps_i s' 1131 34).toInt (ps_i s' 1131 50).toInt) → f s') : ps_Cl (d + 2) 254 [.ref 1131, .int x1, .int x2] s (ps_rV f) := by
  have K : kp [1149] [34, 50] s s := kp_refl
  refine pg_254_0 (d := d + 1) ?_
  obtain ⟨l, hl1, hl2⟩ := id hF
  obtain ⟨c, l3, rfl⟩ := wf_ne hl2
  have hp := Rw_p (l1 := []) (i := 0) hl1 rfl rfl
  have hlen := hl1.2.2.2.1
  have w1 : x2.toInt % 41 = 0 := hl1.1
  have w2 : 0 ≤ x2.toInt := hl1.2.1
  have w3 : x2.toInt < 27306 := hl1.2.2.1
  refine pg_247_0 ?_
  refine pg_220_0 ?_
  have a1 : (x2 + 1).toInt = x2.toInt + (1 : Int) := xIa (show -2147483648 ≤ x2.toInt + (1 : Int) from by omega) (show x2.toInt + (1 : Int) < 2147483648 from by omega)
  have a2 : ((x2 + 1) + 0).toInt = (x2 + 1).toInt + (0 : Int) := xIa (show -2147483648 ≤ (x2 + 1).toInt + (0 : Int) from by omega) (show (x2 + 1).toInt + (0 : Int) < 2147483648 from by omega)
  refine ps_nd_i (show pm_in ((x2 + 1) + 0) 27400 = true from xgi (show 0 ≤ ((x2 + 1) + 0).toInt from by omega) (show ((x2 + 1) + 0).toInt < 27400 from by omega)) ?_
  have r3 : ((x2 + 1) + 0).toInt % 41 = 0 → ((x2 + 1) + 0).toInt < 27306 → 0 ≤ (ps_a s 1134 (Int32.toNatClampNeg ((x2 + 1) + 0))).toInt ∧ (ps_a s 1134 (Int32.toNatClampNeg ((x2 + 1) + 0))).toInt ≤ 40 := fun z1 z2 => mp_row (i := ((x2 + 1) + 0)) J z1 (show 0 ≤ ((x2 + 1) + 0).toInt from by omega) z2
  refine And.intro (fun h4 => ?_) (fun h4 => ?_)
  · have f5 : (ps_a s 1134 (Int32.toNatClampNeg ((x2 + 1) + 0))).toInt = (1 : Int) := xeq h4
    have hc1 : c = 1 := by omega
    subst hc1
    obtain ⟨ks, hk, hw2⟩ := ws_hd (show ws σ (1 :: l3) [true] from wf_ws hl2)
    rw [kS_f2 (by decide) (by decide)] at hk
    cases hk
    obtain ⟨p, q, hpq, hp1, hp2⟩ := ws_split (W1 := [true]) (W2 := [true]) hw2
    subst hpq
    rw [List.length_cons, List.length_append] at hlen
    refine ms_221 J hS ((show Rw (ps_a s 1134) (x2).toInt ([1] ++ (p ++ q)) from hl1)) (rfl) (hp1) (fun v6 p6_0 => ?_)
    have hv : _ := p6_0
    have hv2 : (v6).toInt = 1 + (p.length : Int) := hv
    refine ps_nd_i (show pm_in x1 40 = true from xgi (show 0 ≤ x1.toInt from by omega) (show x1.toInt < 40 from by omega)) ?_
    have r7 : 0 ≤ (ps_a s 1152 (Int32.toNatClampNeg x1)).toInt ∧ (ps_a s 1152 (Int32.toNatClampNeg x1)).toInt ≤ 18 := ma_1152 (i := x1) J (show 0 ≤ x1.toInt from by omega) (show x1.toInt < 40 from by omega)
    refine And.intro (fun h8 => ?_) (fun h8 => ?_)
    · have f9 : (ps_a s 1152 (Int32.toNatClampNeg x1)).toInt ≠ (4 : Int) := xne h8
      refine pg_219_0 ?_
      refine ps_nd_i (show pm_in x2 27400 = true from xgi (show 0 ≤ x2.toInt from by omega) (show x2.toInt < 27400 from by omega)) ?_
      have r10 : x2.toInt % 41 = 0 → x2.toInt < 27306 → 0 ≤ (ps_a s 1134 (Int32.toNatClampNeg x2)).toInt ∧ (ps_a s 1134 (Int32.toNatClampNeg x2)).toInt ≤ 40 := fun z1 z2 => mp_row (i := x2) J z1 (show 0 ≤ x2.toInt from by omega) z2
      refine ms_226 J ((show Rw (ps_a s 1134) (x2).toInt (([1] ++ p) ++ (q ++ [])) from by rw [List.append_nil, List.append_assoc]; exact hl1)) hM ((by rw [llen]; exact hv)) ((Or.inl ((Rw_n hl1).trans (by simp only [List.length_cons, List.length_append, List.length_nil]; omega)))) ((by rw [List.length_nil]; omega)) (fun s11 J11 K11 p11_0 => ?_)
      have K12 := kpt K K11 rfl rfl
      have hS : Sg (ps_a s11 1135) (ps_a s11 1136) (ps_a s11 1138) (ps_a s11 1139) (ps_i s11 1131 21).toInt σ := by rw [show ps_a s11 1135 = ps_a s 1135 from (K11.2 1135 rfl).1, show ps_a s11 1136 = ps_a s 1136 from (K11.2 1136 rfl).1, show ps_a s11 1138 = ps_a s 1138 from (K11.2 1138 rfl).1, show ps_a s11 1139 = ps_a s 1139 from (K11.2 1139 rfl).1, show ps_i s11 1131 21 = ps_i s 1131 21 from kp_i K11 21 rfl]; exact hS
      have hF : Fm σ (ps_a s11 1134) x2.toInt := by rw [show ps_a s11 1134 = ps_a s 1134 from (K11.2 1134 rfl).1]; exact hF
      have hM3 : _ := p11_0
      exact k _ J11 K12 ((by first | exact ⟨_, hM3, by rw [List.nil_append]; omega, Or.inl hp1⟩ | exact ⟨_, hM3, by rw [List.nil_append]; omega, Or.inl hp2⟩))
    · have f13 : (ps_a s 1152 (Int32.toNatClampNeg x1)).toInt = (4 : Int) := xeq h8
      refine ms_226 J ((show Rw (ps_a s 1134) (x2).toInt ([1] ++ (p ++ q)) from hl1)) hM (rfl) (Or.inl hv) ((by rw [List.length_nil]; omega)) (fun s14 J14 K14 p14_0 => ?_)
      have K15 := kpt K K14 rfl rfl
      have hS : Sg (ps_a s14 1135) (ps_a s14 1136) (ps_a s14 1138) (ps_a s14 1139) (ps_i s14 1131 21).toInt σ := by rw [show ps_a s14 1135 = ps_a s 1135 from (K14.2 1135 rfl).1, show ps_a s14 1136 = ps_a s 1136 from (K14.2 1136 rfl).1, show ps_a s14 1138 = ps_a s 1138 from (K14.2 1138 rfl).1, show ps_a s14 1139 = ps_a s 1139 from (K14.2 1139 rfl).1, show ps_i s14 1131 21 = ps_i s 1131 21 from kp_i K14 21 rfl]; exact hS
      have hF : Fm σ (ps_a s14 1134) x2.toInt := by rw [show ps_a s14 1134 = ps_a s 1134 from (K14.2 1134 rfl).1]; exact hF
      have hM3 : _ := p14_0
      exact k _ J14 K15 ((by first | exact ⟨_, hM3, by rw [List.nil_append]; omega, Or.inl hp1⟩ | exact ⟨_, hM3, by rw [List.nil_append]; omega, Or.inl hp2⟩))
  · have f16 : (ps_a s 1134 (Int32.toNatClampNeg ((x2 + 1) + 0))).toInt ≠ (1 : Int) := xne h4
    refine ms_241 J (show 1 ≤ (2 : Int) from by omega) (show (2 : Int) ≤ 5 from by omega) (fun s17 J17 K17 p17_0 => ?_)
    have K18 := kpt K K17 rfl rfl
    have hS : Sg (ps_a s17 1135) (ps_a s17 1136) (ps_a s17 1138) (ps_a s17 1139) (ps_i s17 1131 21).toInt σ := by rw [show ps_a s17 1135 = ps_a s 1135 from (K17.2 1135 rfl).1, show ps_a s17 1136 = ps_a s 1136 from (K17.2 1136 rfl).1, show ps_a s17 1138 = ps_a s 1138 from (K17.2 1138 rfl).1, show ps_a s17 1139 = ps_a s 1139 from (K17.2 1139 rfl).1, show ps_i s17 1131 21 = ps_i s 1131 21 from kp_i K17 21 rfl]; exact hS
    have hF : Fm σ (ps_a s17 1134) x2.toInt := by rw [show ps_a s17 1134 = ps_a s 1134 from (K17.2 1134 rfl).1]; exact hF
    have hM : Md (ps_a s17 1149) (ps_i s17 1131 34).toInt ([] : List Nat) := by rw [show ps_a s17 1149 = ps_a s 1149 from (K17.2 1149 rfl).1, show ps_i s17 1131 34 = ps_i s 1131 34 from kp_i K17 34 rfl]; exact hM
    have p17_0' : 1 ≤ (ps_i s17 1131 50).toInt := p17_0
    have r19 := mf_50 J17
    exact k _ J17 K18 (⟨[], hM, by decide, Or.inr ⟨rfl, show 1 ≤ (ps_i s17 1131 50).toInt from by omega⟩⟩)
