set_option maxRecDepth 100000
theorem ms_214_88 {x : Nat → Nat → Nat} {t : Int32} {d : Nat} {s0 : ps_S} {σ : mSig} {l : List Nat} {b : Bool} {x1 : Int32} {Q : Option Value → ps_S → Prop} (k : ∀ (s' : ps_S), mJ x t s' → kp [1134, 1144, 1145, 1146, 1147, 1148] [5, 6, 7, 8, 9, 10, 11, 29, 30, 31] s0 s' → ((ps_i s' 1131 8).toInt ≤ (ps_i s' 1131 4).toInt) → (1 ≤ (ps_i s' 1131 5).toInt ∨ ((ps_i s' 1131 29).toInt ≤ 13 ∧ 0 ≤ (ps_i s' 1131 30).toInt ∧ (ps_i s' 1131 30).toInt ≤ 5 ∧ (ps_i s' 1131 31).toInt ≤ 40 ∧ (ps_i s0 1131 31).toInt < (ps_i s' 1131 31).toInt)) → ((ps_i s0 1131 31).toInt ≤ (ps_i s' 1131 31).toInt) → (1 ≤ (ps_i s' 1131 5).toInt ∨ ∃ l2, Rw (ps_a s' 1134) x1.toInt l2 ∧ RQ σ (ps_a s' 1144) (ps_a s' 1145) (ps_a s' 1146) (ps_a s' 1147) (ps_i s' 1131 29).toInt (ps_i s' 1131 30).toInt (ps_i s' 1131 31).toInt (ps_i s' 1131 32).toInt l2 b) → (∀ i : Nat, (i : Int) < x1.toInt ∨ x1.toInt + 41 ≤ (i : Int) → ps_a s' 1134 i = ps_a s0 1134 i) → Q none s') (x2 : Int32) (x3 : Int32) (x4 : Int32) (x5 : Int32) (s : ps_S) (J : mJ x t s) (K : kp [1134, 1144, 1145, 1146, 1147, 1148] [5, 6, 7, 8, 9, 10, 11, 29, 30, 31] s0 s) (hS2 : Sg (ps_a s 1135) (ps_a s 1136) (ps_a s 1138) (ps_a s 1139) (ps_i s 1131 22).toInt σ) (hR : Rw (ps_a s 1134) x1.toInt (l)) (hH0 : RH σ (ps_a s 1144) (ps_a s 1145) (ps_a s 1146) (ps_a s 1147) (ps_i s 1131 29).toInt (ps_i s 1131 30).toInt (ps_i s 1131 31).toInt (ps_i s 1131 32).toInt (l) b true) (hO : ∀ i : Nat, (i : Int) < x1.toInt ∨ x1.toInt + 41 ≤ (i : Int) → ps_a s 1134 i = ps_a s0 1134 i) (i4 : (ps_i s 1131 8).toInt ≤ (ps_i s 1131 4).toInt) (i5 : (ps_i s 1131 29).toInt ≤ 13) (i6 : 0 ≤ (ps_i s 1131 30).toInt) (i7 : (ps_i s 1131 30).toInt ≤ 5) (i8 : (ps_i s 1131 31).toInt ≤ 40) (i9 : (ps_i s 1131 31).toInt = (ps_i s0 1131 31).toInt) (i10 : x2.toInt = -1 ∨ (0 ≤ x2.toInt ∧ x2.toInt ≤ 6) ∨ (10 ≤ x2.toInt ∧ x2.toInt < 10 + (σ.1.1 : Int))) (i11 : (x3.toInt = 0 ∧ x5.toInt = 1) ∨ (x3.toInt = 1 ∧ x2.toInt = 3 ∧ x5.toInt = 2)) (i12 : (x4.toInt = 1 ∧ (x2.toInt = 4 ∨ x2.toInt = 5)) ∨ (x4.toInt = 0 ∧ x2.toInt ≠ 4 ∧ x2.toInt ≠ 5)) (i13 : 1 ≤ (ps_i s 1131 5).toInt ∨ (0 ≤ x2.toInt ∧ (ps_i s 1131 31).toInt + x5.toInt ≤ 40 ∧ (ps_i s 1131 29).toInt + x5.toInt ≤ 13 ∧ (x4.toInt = 0 ∨ (ps_i s 1131 30).toInt ≤ 4))) : ps_At (d + 2) 214 88 [(0, .ref 1131), (1, .int x1), (2, .int x2), (3, .int x3), (4, .int x4), (5, .int x5)] [] s Q := by
  have r1 := mf_8 J
  have r2 := mf_4 J
  have r3 := mf_29 J
  have r4 := mf_31 J
  have r5 := mf_5 J
  refine pg_214_88 (d := d + 1) ?_
  obtain ⟨hb0, hb1, h5, hR6, h6, hF, h8, h9⟩ := id hS2
  have h5x : (ps_a s 1135 (Int32.toNatClampNeg (ps_i s 1131 22))).toInt = (σ.1.1 : Int) := h5
  refine ms_192 J  (fun v6 p6_0 b6 => ?_)
  have p6_0' : (v6.toInt = 0 ∧ 1 ≤ (ps_i s 1131 5).toInt) ∨ (v6.toInt = 1 ∧ (ps_i s 1131 5).toInt = 0) := p6_0
  refine And.intro (fun h7 => ?_) (fun h7 => ?_)
  · have f8 : v6.toInt ≠ (0 : Int) := xne h7
    have qz8 : (ps_i s 1131 5).toInt = 0 := by omega
    clear p6_0' p6_0
    have a9 : ((ps_i s 1131 31) + x5).toInt = (ps_i s 1131 31).toInt + x5.toInt := xIa (show -2147483648 ≤ (ps_i s 1131 31).toInt + x5.toInt from by omega) (show (ps_i s 1131 31).toInt + x5.toInt < 2147483648 from by omega)
    have J10 := mwi_31 (v := ((ps_i s 1131 31) + x5)) J (show 0 ≤ ((ps_i s 1131 31) + x5).toInt from by omega) (show ((ps_i s 1131 31) + x5).toInt ≤ 42 from by omega)
    have K11 := kpi K (q := 31) (v := ((ps_i s 1131 31) + x5)) rfl
    have hH : RH σ (ps_a (ps_ui s 1131 31 ((ps_i s 1131 31) + x5)) 1144) (ps_a (ps_ui s 1131 31 ((ps_i s 1131 31) + x5)) 1145) (ps_a (ps_ui s 1131 31 ((ps_i s 1131 31) + x5)) 1146) (ps_a (ps_ui s 1131 31 ((ps_i s 1131 31) + x5)) 1147) (ps_i (ps_ui s 1131 31 ((ps_i s 1131 31) + x5)) 1131 29).toInt (ps_i (ps_ui s 1131 31 ((ps_i s 1131 31) + x5)) 1131 30).toInt ((ps_i (ps_ui s 1131 31 ((ps_i s 1131 31) + x5)) 1131 31).toInt - x5.toInt) (ps_i (ps_ui s 1131 31 ((ps_i s 1131 31) + x5)) 1131 32).toInt (l) b true := RH_cnt hH0 (show ((ps_i s 1131 31) + x5).toInt - x5.toInt = (ps_i s 1131 31).toInt from by omega)
    refine ms_210 (l := l) (p := x2.toInt.toNat) J10 hR ((by have z := RH_len hH0; omega)) ((by omega)) (fun s12 J12 K12 p12_0 p12_1 => ?_)
    have K13 := kpt K11 K12 rfl rfl
    have KC := K12
    have hS2 : Sg (ps_a s12 1135) (ps_a s12 1136) (ps_a s12 1138) (ps_a s12 1139) (ps_i s12 1131 22).toInt σ := by rw [show ps_a s12 1135 = ps_a (ps_ui s 1131 31 ((ps_i s 1131 31) + x5)) 1135 from (K12.2 1135 rfl).1, show ps_a s12 1136 = ps_a (ps_ui s 1131 31 ((ps_i s 1131 31) + x5)) 1136 from (K12.2 1136 rfl).1, show ps_a s12 1138 = ps_a (ps_ui s 1131 31 ((ps_i s 1131 31) + x5)) 1138 from (K12.2 1138 rfl).1, show ps_a s12 1139 = ps_a (ps_ui s 1131 31 ((ps_i s 1131 31) + x5)) 1139 from (K12.2 1139 rfl).1, show ps_i s12 1131 22 = ps_i (ps_ui s 1131 31 ((ps_i s 1131 31) + x5)) 1131 22 from kp_i K12 22 rfl]; exact hS2
    have hH : RH σ (ps_a s12 1144) (ps_a s12 1145) (ps_a s12 1146) (ps_a s12 1147) (ps_i s12 1131 29).toInt (ps_i s12 1131 30).toInt ((ps_i s12 1131 31).toInt - x5.toInt) (ps_i s12 1131 32).toInt (l) b true := by rw [show ps_a s12 1144 = ps_a (ps_ui s 1131 31 ((ps_i s 1131 31) + x5)) 1144 from (K12.2 1144 rfl).1, show ps_a s12 1145 = ps_a (ps_ui s 1131 31 ((ps_i s 1131 31) + x5)) 1145 from (K12.2 1145 rfl).1, show ps_a s12 1146 = ps_a (ps_ui s 1131 31 ((ps_i s 1131 31) + x5)) 1146 from (K12.2 1146 rfl).1, show ps_a s12 1147 = ps_a (ps_ui s 1131 31 ((ps_i s 1131 31) + x5)) 1147 from (K12.2 1147 rfl).1, show ps_i s12 1131 29 = ps_i (ps_ui s 1131 31 ((ps_i s 1131 31) + x5)) 1131 29 from kp_i K12 29 rfl, show ps_i s12 1131 30 = ps_i (ps_ui s 1131 31 ((ps_i s 1131 31) + x5)) 1131 30 from kp_i K12 30 rfl, show ps_i s12 1131 31 = ps_i (ps_ui s 1131 31 ((ps_i s 1131 31) + x5)) 1131 31 from kp_i K12 31 rfl, show ps_i s12 1131 32 = ps_i (ps_ui s 1131 31 ((ps_i s 1131 31) + x5)) 1131 32 from kp_i K12 32 rfl]; exact hH
    have hR2 : Rw (ps_a s12 1134) x1.toInt (l ++ [x2.toInt.toNat]) := p12_0
    have ho : _ := p12_1
    have hO : ∀ i : Nat, (i : Int) < x1.toInt ∨ x1.toInt + 41 ≤ (i : Int) → ps_a s12 1134 i = ps_a s0 1134 i := fun i hi => (ho i hi).trans (hO i hi)
    have r14 := mf_8 J12
    have u15 : (ps_i s12 1131 8).toInt = (ps_i s 1131 8).toInt := xeq (kp_i K12 8 rfl)
    have r16 := mf_4 J12
    have u17 : (ps_i s12 1131 4).toInt = (ps_i s 1131 4).toInt := xeq (kp_i K12 4 rfl)
    refine ms_194 J12 (show (ps_i s12 1131 8).toInt ≤ (ps_i s12 1131 4).toInt from by omega) (fun s18 J18 K18 p18_0 => ?_)
    have K19 := kpt K13 K18 rfl rfl
    have KC := K18
    have hS2 : Sg (ps_a s18 1135) (ps_a s18 1136) (ps_a s18 1138) (ps_a s18 1139) (ps_i s18 1131 22).toInt σ := by rw [show ps_a s18 1135 = ps_a s12 1135 from (K18.2 1135 rfl).1, show ps_a s18 1136 = ps_a s12 1136 from (K18.2 1136 rfl).1, show ps_a s18 1138 = ps_a s12 1138 from (K18.2 1138 rfl).1, show ps_a s18 1139 = ps_a s12 1139 from (K18.2 1139 rfl).1, show ps_i s18 1131 22 = ps_i s12 1131 22 from kp_i K18 22 rfl]; exact hS2
    have hH : RH σ (ps_a s18 1144) (ps_a s18 1145) (ps_a s18 1146) (ps_a s18 1147) (ps_i s18 1131 29).toInt (ps_i s18 1131 30).toInt ((ps_i s18 1131 31).toInt - x5.toInt) (ps_i s18 1131 32).toInt (l) b true := by rw [show ps_a s18 1144 = ps_a s12 1144 from (K18.2 1144 rfl).1, show ps_a s18 1145 = ps_a s12 1145 from (K18.2 1145 rfl).1, show ps_a s18 1146 = ps_a s12 1146 from (K18.2 1146 rfl).1, show ps_a s18 1147 = ps_a s12 1147 from (K18.2 1147 rfl).1, show ps_i s18 1131 29 = ps_i s12 1131 29 from kp_i K18 29 rfl, show ps_i s18 1131 30 = ps_i s12 1131 30 from kp_i K18 30 rfl, show ps_i s18 1131 31 = ps_i s12 1131 31 from kp_i K18 31 rfl, show ps_i s18 1131 32 = ps_i s12 1131 32 from kp_i K18 32 rfl]; exact hH
    have hR2 : Rw (ps_a s18 1134) x1.toInt (l ++ [x2.toInt.toNat]) := by rw [show ps_a s18 1134 = ps_a s12 1134 from (K18.2 1134 rfl).1]; exact hR2
    have hO : ∀ i : Nat, (i : Int) < x1.toInt ∨ x1.toInt + 41 ≤ (i : Int) → ps_a s18 1134 i = ps_a s0 1134 i := by rw [show ps_a s18 1134 = ps_a s12 1134 from (K18.2 1134 rfl).1]; exact hO
    have p18_0' : (ps_i s18 1131 8).toInt ≤ (ps_i s18 1131 4).toInt := p18_0
    have r20 := mf_8 J18
    have r21 := mf_4 J18
    have u22 : (ps_i s18 1131 4).toInt = (ps_i s12 1131 4).toInt := xeq (kp_i K18 4 rfl)
    refine And.intro (fun h23 => ?_) (fun h23 => ?_)
    · have f24 : x4.toInt = (0 : Int) := xeq h23
      refine And.intro (fun h25 => ?_) (fun h25 => ?_)
      · have f26 : x3.toInt = (0 : Int) := xeq h25
        refine And.intro (fun h27 => ?_) (fun h27 => ?_)
        · have f28 : x2.toInt ≠ (0 : Int) := xne h27
          refine And.intro (fun h29 => ?_) (fun h29 => ?_)
          · have f30 : (10 : Int) ≤ x2.toInt := xle h29
            have r31 := mf_22 J18
            have u32 : (ps_i s18 1131 22).toInt = (ps_i s12 1131 22).toInt := xeq (kp_i K18 22 rfl)
            have r33 := mf_22 J12
            have u34 : (ps_i s12 1131 22).toInt = (ps_i s 1131 22).toInt := xeq (kp_i K12 22 rfl)
            have r35 := mf_22 J
            have a36 : ((6 : Int32) * (ps_i s18 1131 22)).toInt = (6 : Int) * (ps_i s18 1131 22).toInt := xIm (show -2147483648 ≤ (6 : Int) * (ps_i s18 1131 22).toInt from by omega) (show (6 : Int) * (ps_i s18 1131 22).toInt < 2147483648 from by omega)
            have a37 : (((6 : Int32) * (ps_i s18 1131 22)) + x2).toInt = ((6 : Int32) * (ps_i s18 1131 22)).toInt + x2.toInt := xIa (show -2147483648 ≤ ((6 : Int32) * (ps_i s18 1131 22)).toInt + x2.toInt from by omega) (show ((6 : Int32) * (ps_i s18 1131 22)).toInt + x2.toInt < 2147483648 from by omega)
            have a38 : ((((6 : Int32) * (ps_i s18 1131 22)) + x2) - 10).toInt = (((6 : Int32) * (ps_i s18 1131 22)) + x2).toInt - (10 : Int) := xIs (show -2147483648 ≤ (((6 : Int32) * (ps_i s18 1131 22)) + x2).toInt - (10 : Int) from by omega) (show (((6 : Int32) * (ps_i s18 1131 22)) + x2).toInt - (10 : Int) < 2147483648 from by omega)
            refine ps_nd_i (show pm_in ((((6 : Int32) * (ps_i s18 1131 22)) + x2) - 10) 12 = true from xgi (show 0 ≤ ((((6 : Int32) * (ps_i s18 1131 22)) + x2) - 10).toInt from by omega) (show ((((6 : Int32) * (ps_i s18 1131 22)) + x2) - 10).toInt < 12 from by omega)) ?_
            have r39 : 0 ≤ (ps_a s18 1138 (Int32.toNatClampNeg ((((6 : Int32) * (ps_i s18 1131 22)) + x2) - 10))).toInt ∧ (ps_a s18 1138 (Int32.toNatClampNeg ((((6 : Int32) * (ps_i s18 1131 22)) + x2) - 10))).toInt ≤ 9999 := ma_1138 (i := ((((6 : Int32) * (ps_i s18 1131 22)) + x2) - 10)) J18 (show 0 ≤ ((((6 : Int32) * (ps_i s18 1131 22)) + x2) - 10).toInt from by omega) (show ((((6 : Int32) * (ps_i s18 1131 22)) + x2) - 10).toInt < 12 from by omega)
            have u40 : (ps_a s18 1138 (Int32.toNatClampNeg ((((6 : Int32) * (ps_i s18 1131 22)) + x2) - 10))).toInt = (ps_a s12 1138 (Int32.toNatClampNeg ((((6 : Int32) * (ps_i s18 1131 22)) + x2) - 10))).toInt := xeq (kp_a K18 1138 rfl _)
            have r41 : 0 ≤ (ps_a s12 1138 (Int32.toNatClampNeg ((((6 : Int32) * (ps_i s18 1131 22)) + x2) - 10))).toInt ∧ (ps_a s12 1138 (Int32.toNatClampNeg ((((6 : Int32) * (ps_i s18 1131 22)) + x2) - 10))).toInt ≤ 9999 := ma_1138 (i := ((((6 : Int32) * (ps_i s18 1131 22)) + x2) - 10)) J12 (show 0 ≤ ((((6 : Int32) * (ps_i s18 1131 22)) + x2) - 10).toInt from by omega) (show ((((6 : Int32) * (ps_i s18 1131 22)) + x2) - 10).toInt < 12 from by omega)
            have u42 : (ps_a s12 1138 (Int32.toNatClampNeg ((((6 : Int32) * (ps_i s18 1131 22)) + x2) - 10))).toInt = (ps_a s 1138 (Int32.toNatClampNeg ((((6 : Int32) * (ps_i s18 1131 22)) + x2) - 10))).toInt := xeq (kp_a K12 1138 rfl _)
            have r43 : 0 ≤ (ps_a s 1138 (Int32.toNatClampNeg ((((6 : Int32) * (ps_i s18 1131 22)) + x2) - 10))).toInt ∧ (ps_a s 1138 (Int32.toNatClampNeg ((((6 : Int32) * (ps_i s18 1131 22)) + x2) - 10))).toInt ≤ 9999 := ma_1138 (i := ((((6 : Int32) * (ps_i s18 1131 22)) + x2) - 10)) J (show 0 ≤ ((((6 : Int32) * (ps_i s18 1131 22)) + x2) - 10).toInt from by omega) (show ((((6 : Int32) * (ps_i s18 1131 22)) + x2) - 10).toInt < 12 from by omega)
            have hwv : (x3.toInt = 1 ∧ ((ps_a s18 1138 (Int32.toNatClampNeg ((((6 : Int32) * (ps_i s18 1131 22)) + x2) - 10)))).toInt = 1) ∨ (x3.toInt = 0 ∧ x2.toInt = 0 ∧ ((ps_a s18 1138 (Int32.toNatClampNeg ((((6 : Int32) * (ps_i s18 1131 22)) + x2) - 10)))).toInt = 0) ∨ (x3.toInt = 0 ∧ x2.toInt ≠ 0 ∧ x2.toInt < 10 ∧ ((ps_a s18 1138 (Int32.toNatClampNeg ((((6 : Int32) * (ps_i s18 1131 22)) + x2) - 10)))).toInt = 2) ∨ (x3.toInt = 0 ∧ 10 ≤ x2.toInt ∧ ((ps_a s18 1138 (Int32.toNatClampNeg ((((6 : Int32) * (ps_i s18 1131 22)) + x2) - 10)))).toInt = σ.2.1 (x2.toInt.toNat - 10) ∧ σ.2.1 (x2.toInt.toNat - 10) ≤ 2) := by first | exact Or.inl ⟨by omega, by decide⟩ | exact Or.inr (Or.inl ⟨by omega, by omega, by decide⟩) | exact Or.inr (Or.inr (Or.inl ⟨by omega, by omega, by omega, by decide⟩)) | exact Or.inr (Or.inr (Or.inr ⟨by omega, by omega, Sg_r hS2 (by omega) (by omega)⟩))
            refine And.intro (fun h44 => ?_) (fun h44 => ?_)
            · have f45 : x2.toInt < (6 : Int) := xlt h44
              have r46 := mf_29 J18
              have u47 : (ps_i s18 1131 29).toInt = (ps_i s12 1131 29).toInt := xeq (kp_i K18 29 rfl)
              have r48 := mf_29 J12
              have u49 : (ps_i s12 1131 29).toInt = (ps_i s 1131 29).toInt := xeq (kp_i K12 29 rfl)
              refine ms_211 J18 (show (ps_i s18 1131 29).toInt ≤ 14 from by omega) (fun s50 J50 K50 p50_0 p50_1 p50_2 p50_3 p50_4 => ?_)
              have K51 := kpt K19 K50 rfl rfl
              have KC := K50
              have hS2 : Sg (ps_a s50 1135) (ps_a s50 1136) (ps_a s50 1138) (ps_a s50 1139) (ps_i s50 1131 22).toInt σ := by rw [show ps_a s50 1135 = ps_a s18 1135 from (K50.2 1135 rfl).1, show ps_a s50 1136 = ps_a s18 1136 from (K50.2 1136 rfl).1, show ps_a s50 1138 = ps_a s18 1138 from (K50.2 1138 rfl).1, show ps_a s50 1139 = ps_a s18 1139 from (K50.2 1139 rfl).1, show ps_i s50 1131 22 = ps_i s18 1131 22 from kp_i K50 22 rfl]; exact hS2
              have hR2 : Rw (ps_a s50 1134) x1.toInt (l ++ [x2.toInt.toNat]) := by rw [show ps_a s50 1134 = ps_a s18 1134 from (K50.2 1134 rfl).1]; exact hR2
              have hO : ∀ i : Nat, (i : Int) < x1.toInt ∨ x1.toInt + 41 ≤ (i : Int) → ps_a s50 1134 i = ps_a s0 1134 i := by rw [show ps_a s50 1134 = ps_a s18 1134 from (K50.2 1134 rfl).1]; exact hO
              have p50_0' : (ps_i s50 1131 29).toInt = (ps_i s18 1131 29).toInt + 1 := p50_0
              have r52 := mf_29 J50
              have w44 : _ := p50_1
              have w45 : _ := p50_2
              have w46 : _ := p50_3
              have w47 : _ := p50_4
              have u30 := xeq (kp_i KC 30 rfl)
              have u31 := xeq (kp_i KC 31 rfl)
              have u32 := xeq (kp_i KC 32 rfl)
              have g5 : (x2.toInt < 6 ∧ ps_a s50 1145 (ps_i s18 1131 29).toInt.toNat = 0) ∨ (6 ≤ x2.toInt ∧ ps_a s50 1145 (ps_i s18 1131 29).toInt.toNat ≠ 0) := by first | exact Or.inl ⟨by omega, ((w45 _).trans (if_pos rfl)).trans (by decide)⟩ | exact Or.inr ⟨by omega, by rw [(w45 _).trans (if_pos rfl)]; decide⟩
              have g7 : ps_a s50 1147 (ps_i s18 1131 29).toInt.toNat = 0 := ((w47 _).trans (if_pos rfl)).trans (by decide)
              have g4 := congrArg Int32.toInt ((w44 (ps_i s18 1131 29).toInt.toNat).trans (if_pos rfl))
              have a53 : ((ps_i s50 1131 29) - 1).toInt = (ps_i s50 1131 29).toInt - (1 : Int) := xIs (show -2147483648 ≤ (ps_i s50 1131 29).toInt - (1 : Int) from by omega) (show (ps_i s50 1131 29).toInt - (1 : Int) < 2147483648 from by omega)
              have e9 : Int32.toNatClampNeg ((ps_i s50 1131 29) - 1) = (ps_i s18 1131 29).toInt.toNat := nx (show ((ps_i s50 1131 29) - 1).toInt = (ps_i s18 1131 29).toInt from by omega)
              refine ps_nd_i (show pm_in ((ps_i s50 1131 29) - 1) 16 = true from xgi (show 0 ≤ ((ps_i s50 1131 29) - 1).toInt from by omega) (show ((ps_i s50 1131 29) - 1).toInt < 16 from by omega)) ?_
              have J54 := mwa_n 1146 (i := (Int32.toNatClampNeg ((ps_i s50 1131 29) - 1))) (v := (x3 &&& 1)) J50 rfl (by decide)
              have K55 := kpa' K51 (r := 1146) (i := (Int32.toNatClampNeg ((ps_i s50 1131 29) - 1))) (v := (x3 &&& 1)) rfl
              have g6 : ps_a (ps_ua s50 1146 (Int32.toNatClampNeg ((ps_i s50 1131 29) - 1)) (x3 &&& 1)) 1146 (ps_i s18 1131 29).toInt.toNat = (x3 &&& 1) := by rw [← e9]; exact ua_eq
              have g6l : ∀ i, i < (ps_i s18 1131 29).toInt.toNat → ps_a (ps_ua s50 1146 (Int32.toNatClampNeg ((ps_i s50 1131 29) - 1)) (x3 &&& 1)) 1146 i = ps_a s18 1146 i := fun i hi => (ua_ne (by omega)).trans ((w46 i).trans (if_neg (by omega)))
              have r56 := mf_8 J50
              have u57 : (ps_i s50 1131 8).toInt = (ps_i s18 1131 8).toInt := xeq (kp_i K50 8 rfl)
              have r58 := mf_4 J50
              have u59 : (ps_i s50 1131 4).toInt = (ps_i s18 1131 4).toInt := xeq (kp_i K50 4 rfl)
              have r60 := mf_5 J50
              have u61 : (ps_i s50 1131 5).toInt = (ps_i s18 1131 5).toInt := xeq (kp_i K50 5 rfl)
              have r62 := mf_5 J18
              have u63 : (ps_i s18 1131 5).toInt = (ps_i s12 1131 5).toInt := xeq (kp_i K18 5 rfl)
              have r64 := mf_5 J12
              have u65 : (ps_i s12 1131 5).toInt = (ps_i s 1131 5).toInt := xeq (kp_i K12 5 rfl)
              have u66 : (ps_i s50 1131 30).toInt = (ps_i s18 1131 30).toInt := xeq (kp_i K50 30 rfl)
              have u67 : (ps_i s18 1131 30).toInt = (ps_i s12 1131 30).toInt := xeq (kp_i K18 30 rfl)
              have u68 : (ps_i s12 1131 30).toInt = (ps_i s 1131 30).toInt := xeq (kp_i K12 30 rfl)
              have r69 := mf_31 J50
              have u70 : (ps_i s50 1131 31).toInt = (ps_i s18 1131 31).toInt := xeq (kp_i K50 31 rfl)
              have r71 := mf_31 J18
              have u72 : (ps_i s18 1131 31).toInt = (ps_i s12 1131 31).toInt := xeq (kp_i K18 31 rfl)
              have r73 := mf_31 J12
              have u74 : (ps_i s12 1131 31).toInt = ((ps_i s 1131 31) + x5).toInt := xeq (kp_i K12 31 rfl)
              exact k _ J54 K55 (show (ps_i s50 1131 8).toInt ≤ (ps_i s50 1131 4).toInt from by omega) (show 1 ≤ (ps_i s50 1131 5).toInt ∨ ((ps_i s50 1131 29).toInt ≤ 13 ∧ 0 ≤ (ps_i s50 1131 30).toInt ∧ (ps_i s50 1131 30).toInt ≤ 5 ∧ (ps_i s50 1131 31).toInt ≤ 40 ∧ (ps_i s0 1131 31).toInt < (ps_i s50 1131 31).toInt) from by omega) (show (ps_i s0 1131 31).toInt ≤ (ps_i s50 1131 31).toInt from by omega) ((by first | (exfalso; omega) | exact Or.inr ⟨_, hR2, (by
      have n1 : (ps_i s50 1131 29).toInt = (ps_i s18 1131 29).toInt + 1 := by omega
      rcases i11 with z | z
      · refine RQ_c hH (by omega) (by omega) (kS_push (g := ps_a (ps_ua s50 1146 (Int32.toNatClampNeg ((ps_i s50 1131 29) - 1)) (x3 &&& 1)) 1145 (ps_i s18 1131 29).toInt.toNat) ?_) ?_ g4 (g6.trans (by rw [show x3 = 0 from x0 z.1]; decide)) (show (ps_i s50 1131 30).toInt = (ps_i s18 1131 30).toInt + (if x2.toInt.toNat = 4 ∨ x2.toInt.toNat = 5 then 1 else 0) from by rw [if_neg (by omega)]; omega) ⟨fun _ => by omega, fun _ => g7⟩ (fun i hi => ⟨(w44 i).trans (if_neg (by omega)), (w45 i).trans (if_neg (by omega)), g6l i hi, (w47 i).trans (if_neg (by omega))⟩) n1 (show (ps_i s50 1131 31).toInt = ((ps_i s18 1131 31).toInt - x5.toInt) + 1 from by omega) (show (ps_i (ps_ua s50 1146 (Int32.toNatClampNeg ((ps_i s50 1131 29) - 1)) (x3 &&& 1)) 1131 32).toInt = (ps_i s18 1131 32).toInt from u32) (fun _ => by omega)
        · rcases hwv with q | q | q | q
          · omega
          · exact Or.inl ⟨by omega, q.2.2⟩
          · rcases g5 with g | g
            · exact Or.inr (Or.inl ⟨by omega, by omega, q.2.2.2, g.2⟩)
            · exact Or.inr (Or.inr (Or.inl ⟨by omega, q.2.2.2, g.2⟩))
          · rcases g5 with g | g
            · omega
            · exact Or.inr (Or.inr (Or.inr ⟨by omega, by omega, q.2.2.1, g.2⟩))
        · omega
      · exact RQ_not hH (by omega) (by omega) (by omega) (by rcases hwv with q | q | q | q; exact g4.trans q.2; omega; omega; omega) (by rcases g5 with g | g; exact g.2; omega) (by rw [g6, show x3 = 1 from xO1 z.1]; decide) (show (ps_i s50 1131 30).toInt = (ps_i s18 1131 30).toInt from by omega) g7 (fun i hi => ⟨(w44 i).trans (if_neg (by omega)), (w45 i).trans (if_neg (by omega)), g6l i hi, (w47 i).trans (if_neg (by omega))⟩) n1 (show (ps_i s50 1131 31).toInt = ((ps_i s18 1131 31).toInt - x5.toInt) + 2 from by omega) (show (ps_i (ps_ua s50 1146 (Int32.toNatClampNeg ((ps_i s50 1131 29) - 1)) (x3 &&& 1)) 1131 32).toInt = (ps_i s18 1131 32).toInt from u32))⟩)) (hO)
            · have f75 : (6 : Int) ≤ x2.toInt := xle h44
              have r76 := mf_29 J18
              have u77 : (ps_i s18 1131 29).toInt = (ps_i s12 1131 29).toInt := xeq (kp_i K18 29 rfl)
              have r78 := mf_29 J12
              have u79 : (ps_i s12 1131 29).toInt = (ps_i s 1131 29).toInt := xeq (kp_i K12 29 rfl)
              refine ms_211 J18 (show (ps_i s18 1131 29).toInt ≤ 14 from by omega) (fun s80 J80 K80 p80_0 p80_1 p80_2 p80_3 p80_4 => ?_)
              have K81 := kpt K19 K80 rfl rfl
              have KC := K80
              have hS2 : Sg (ps_a s80 1135) (ps_a s80 1136) (ps_a s80 1138) (ps_a s80 1139) (ps_i s80 1131 22).toInt σ := by rw [show ps_a s80 1135 = ps_a s18 1135 from (K80.2 1135 rfl).1, show ps_a s80 1136 = ps_a s18 1136 from (K80.2 1136 rfl).1, show ps_a s80 1138 = ps_a s18 1138 from (K80.2 1138 rfl).1, show ps_a s80 1139 = ps_a s18 1139 from (K80.2 1139 rfl).1, show ps_i s80 1131 22 = ps_i s18 1131 22 from kp_i K80 22 rfl]; exact hS2
              have hR2 : Rw (ps_a s80 1134) x1.toInt (l ++ [x2.toInt.toNat]) := by rw [show ps_a s80 1134 = ps_a s18 1134 from (K80.2 1134 rfl).1]; exact hR2
              have hO : ∀ i : Nat, (i : Int) < x1.toInt ∨ x1.toInt + 41 ≤ (i : Int) → ps_a s80 1134 i = ps_a s0 1134 i := by rw [show ps_a s80 1134 = ps_a s18 1134 from (K80.2 1134 rfl).1]; exact hO
              have p80_0' : (ps_i s80 1131 29).toInt = (ps_i s18 1131 29).toInt + 1 := p80_0
              have r82 := mf_29 J80
              have w44 : _ := p80_1
              have w45 : _ := p80_2
              have w46 : _ := p80_3
              have w47 : _ := p80_4
              have u30 := xeq (kp_i KC 30 rfl)
              have u31 := xeq (kp_i KC 31 rfl)
              have u32 := xeq (kp_i KC 32 rfl)
              have g5 : (x2.toInt < 6 ∧ ps_a s80 1145 (ps_i s18 1131 29).toInt.toNat = 0) ∨ (6 ≤ x2.toInt ∧ ps_a s80 1145 (ps_i s18 1131 29).toInt.toNat ≠ 0) := by first | exact Or.inl ⟨by omega, ((w45 _).trans (if_pos rfl)).trans (by decide)⟩ | exact Or.inr ⟨by omega, by rw [(w45 _).trans (if_pos rfl)]; decide⟩
              have g7 : ps_a s80 1147 (ps_i s18 1131 29).toInt.toNat = 0 := ((w47 _).trans (if_pos rfl)).trans (by decide)
              have g4 := congrArg Int32.toInt ((w44 (ps_i s18 1131 29).toInt.toNat).trans (if_pos rfl))
              have a83 : ((ps_i s80 1131 29) - 1).toInt = (ps_i s80 1131 29).toInt - (1 : Int) := xIs (show -2147483648 ≤ (ps_i s80 1131 29).toInt - (1 : Int) from by omega) (show (ps_i s80 1131 29).toInt - (1 : Int) < 2147483648 from by omega)
              have e9 : Int32.toNatClampNeg ((ps_i s80 1131 29) - 1) = (ps_i s18 1131 29).toInt.toNat := nx (show ((ps_i s80 1131 29) - 1).toInt = (ps_i s18 1131 29).toInt from by omega)
              refine ps_nd_i (show pm_in ((ps_i s80 1131 29) - 1) 16 = true from xgi (show 0 ≤ ((ps_i s80 1131 29) - 1).toInt from by omega) (show ((ps_i s80 1131 29) - 1).toInt < 16 from by omega)) ?_
              have J84 := mwa_n 1146 (i := (Int32.toNatClampNeg ((ps_i s80 1131 29) - 1))) (v := (x3 &&& 1)) J80 rfl (by decide)
              have K85 := kpa' K81 (r := 1146) (i := (Int32.toNatClampNeg ((ps_i s80 1131 29) - 1))) (v := (x3 &&& 1)) rfl
              have g6 : ps_a (ps_ua s80 1146 (Int32.toNatClampNeg ((ps_i s80 1131 29) - 1)) (x3 &&& 1)) 1146 (ps_i s18 1131 29).toInt.toNat = (x3 &&& 1) := by rw [← e9]; exact ua_eq
              have g6l : ∀ i, i < (ps_i s18 1131 29).toInt.toNat → ps_a (ps_ua s80 1146 (Int32.toNatClampNeg ((ps_i s80 1131 29) - 1)) (x3 &&& 1)) 1146 i = ps_a s18 1146 i := fun i hi => (ua_ne (by omega)).trans ((w46 i).trans (if_neg (by omega)))
              have r86 := mf_8 J80
              have u87 : (ps_i s80 1131 8).toInt = (ps_i s18 1131 8).toInt := xeq (kp_i K80 8 rfl)
              have r88 := mf_4 J80
              have u89 : (ps_i s80 1131 4).toInt = (ps_i s18 1131 4).toInt := xeq (kp_i K80 4 rfl)
              have r90 := mf_5 J80
              have u91 : (ps_i s80 1131 5).toInt = (ps_i s18 1131 5).toInt := xeq (kp_i K80 5 rfl)
              have r92 := mf_5 J18
              have u93 : (ps_i s18 1131 5).toInt = (ps_i s12 1131 5).toInt := xeq (kp_i K18 5 rfl)
              have r94 := mf_5 J12
              have u95 : (ps_i s12 1131 5).toInt = (ps_i s 1131 5).toInt := xeq (kp_i K12 5 rfl)
              have u96 : (ps_i s80 1131 30).toInt = (ps_i s18 1131 30).toInt := xeq (kp_i K80 30 rfl)
              have u97 : (ps_i s18 1131 30).toInt = (ps_i s12 1131 30).toInt := xeq (kp_i K18 30 rfl)
              have u98 : (ps_i s12 1131 30).toInt = (ps_i s 1131 30).toInt := xeq (kp_i K12 30 rfl)
              have r99 := mf_31 J80
              have u100 : (ps_i s80 1131 31).toInt = (ps_i s18 1131 31).toInt := xeq (kp_i K80 31 rfl)
              have r101 := mf_31 J18
              have u102 : (ps_i s18 1131 31).toInt = (ps_i s12 1131 31).toInt := xeq (kp_i K18 31 rfl)
              have r103 := mf_31 J12
              have u104 : (ps_i s12 1131 31).toInt = ((ps_i s 1131 31) + x5).toInt := xeq (kp_i K12 31 rfl)
              exact k _ J84 K85 (show (ps_i s80 1131 8).toInt ≤ (ps_i s80 1131 4).toInt from by omega) (show 1 ≤ (ps_i s80 1131 5).toInt ∨ ((ps_i s80 1131 29).toInt ≤ 13 ∧ 0 ≤ (ps_i s80 1131 30).toInt ∧ (ps_i s80 1131 30).toInt ≤ 5 ∧ (ps_i s80 1131 31).toInt ≤ 40 ∧ (ps_i s0 1131 31).toInt < (ps_i s80 1131 31).toInt) from by omega) (show (ps_i s0 1131 31).toInt ≤ (ps_i s80 1131 31).toInt from by omega) ((by first | (exfalso; omega) | exact Or.inr ⟨_, hR2, (by
      have n1 : (ps_i s80 1131 29).toInt = (ps_i s18 1131 29).toInt + 1 := by omega
      rcases i11 with z | z
      · refine RQ_c hH (by omega) (by omega) (kS_push (g := ps_a (ps_ua s80 1146 (Int32.toNatClampNeg ((ps_i s80 1131 29) - 1)) (x3 &&& 1)) 1145 (ps_i s18 1131 29).toInt.toNat) ?_) ?_ g4 (g6.trans (by rw [show x3 = 0 from x0 z.1]; decide)) (show (ps_i s80 1131 30).toInt = (ps_i s18 1131 30).toInt + (if x2.toInt.toNat = 4 ∨ x2.toInt.toNat = 5 then 1 else 0) from by rw [if_neg (by omega)]; omega) ⟨fun _ => by omega, fun _ => g7⟩ (fun i hi => ⟨(w44 i).trans (if_neg (by omega)), (w45 i).trans (if_neg (by omega)), g6l i hi, (w47 i).trans (if_neg (by omega))⟩) n1 (show (ps_i s80 1131 31).toInt = ((ps_i s18 1131 31).toInt - x5.toInt) + 1 from by omega) (show (ps_i (ps_ua s80 1146 (Int32.toNatClampNeg ((ps_i s80 1131 29) - 1)) (x3 &&& 1)) 1131 32).toInt = (ps_i s18 1131 32).toInt from u32) (fun _ => by omega)
        · rcases hwv with q | q | q | q
          · omega
          · exact Or.inl ⟨by omega, q.2.2⟩
          · rcases g5 with g | g
            · exact Or.inr (Or.inl ⟨by omega, by omega, q.2.2.2, g.2⟩)
            · exact Or.inr (Or.inr (Or.inl ⟨by omega, q.2.2.2, g.2⟩))
          · rcases g5 with g | g
            · omega
            · exact Or.inr (Or.inr (Or.inr ⟨by omega, by omega, q.2.2.1, g.2⟩))
        · omega
      · exact RQ_not hH (by omega) (by omega) (by omega) (by rcases hwv with q | q | q | q; exact g4.trans q.2; omega; omega; omega) (by rcases g5 with g | g; exact g.2; omega) (by rw [g6, show x3 = 1 from xO1 z.1]; decide) (show (ps_i s80 1131 30).toInt = (ps_i s18 1131 30).toInt from by omega) g7 (fun i hi => ⟨(w44 i).trans (if_neg (by omega)), (w45 i).trans (if_neg (by omega)), g6l i hi, (w47 i).trans (if_neg (by omega))⟩) n1 (show (ps_i s80 1131 31).toInt = ((ps_i s18 1131 31).toInt - x5.toInt) + 2 from by omega) (show (ps_i (ps_ua s80 1146 (Int32.toNatClampNeg ((ps_i s80 1131 29) - 1)) (x3 &&& 1)) 1131 32).toInt = (ps_i s18 1131 32).toInt from u32))⟩)) (hO)
          · have f105 : x2.toInt < (10 : Int) := xlt h29
            have hwv : (x3.toInt = 1 ∧ ((2 : Int32)).toInt = 1) ∨ (x3.toInt = 0 ∧ x2.toInt = 0 ∧ ((2 : Int32)).toInt = 0) ∨ (x3.toInt = 0 ∧ x2.toInt ≠ 0 ∧ x2.toInt < 10 ∧ ((2 : Int32)).toInt = 2) ∨ (x3.toInt = 0 ∧ 10 ≤ x2.toInt ∧ ((2 : Int32)).toInt = σ.2.1 (x2.toInt.toNat - 10) ∧ σ.2.1 (x2.toInt.toNat - 10) ≤ 2) := by first | exact Or.inl ⟨by omega, by decide⟩ | exact Or.inr (Or.inl ⟨by omega, by omega, by decide⟩) | exact Or.inr (Or.inr (Or.inl ⟨by omega, by omega, by omega, by decide⟩)) | exact Or.inr (Or.inr (Or.inr ⟨by omega, by omega, Sg_r hS2 (by omega) (by omega)⟩))
            refine And.intro (fun h106 => ?_) (fun h106 => ?_)
            · have f107 : x2.toInt < (6 : Int) := xlt h106
              have r108 := mf_29 J18
              have u109 : (ps_i s18 1131 29).toInt = (ps_i s12 1131 29).toInt := xeq (kp_i K18 29 rfl)
              have r110 := mf_29 J12
              have u111 : (ps_i s12 1131 29).toInt = (ps_i s 1131 29).toInt := xeq (kp_i K12 29 rfl)
              refine ms_211 J18 (show (ps_i s18 1131 29).toInt ≤ 14 from by omega) (fun s112 J112 K112 p112_0 p112_1 p112_2 p112_3 p112_4 => ?_)
              have K113 := kpt K19 K112 rfl rfl
              have KC := K112
              have hS2 : Sg (ps_a s112 1135) (ps_a s112 1136) (ps_a s112 1138) (ps_a s112 1139) (ps_i s112 1131 22).toInt σ := by rw [show ps_a s112 1135 = ps_a s18 1135 from (K112.2 1135 rfl).1, show ps_a s112 1136 = ps_a s18 1136 from (K112.2 1136 rfl).1, show ps_a s112 1138 = ps_a s18 1138 from (K112.2 1138 rfl).1, show ps_a s112 1139 = ps_a s18 1139 from (K112.2 1139 rfl).1, show ps_i s112 1131 22 = ps_i s18 1131 22 from kp_i K112 22 rfl]; exact hS2
              have hR2 : Rw (ps_a s112 1134) x1.toInt (l ++ [x2.toInt.toNat]) := by rw [show ps_a s112 1134 = ps_a s18 1134 from (K112.2 1134 rfl).1]; exact hR2
              have hO : ∀ i : Nat, (i : Int) < x1.toInt ∨ x1.toInt + 41 ≤ (i : Int) → ps_a s112 1134 i = ps_a s0 1134 i := by rw [show ps_a s112 1134 = ps_a s18 1134 from (K112.2 1134 rfl).1]; exact hO
              have p112_0' : (ps_i s112 1131 29).toInt = (ps_i s18 1131 29).toInt + 1 := p112_0
              have r114 := mf_29 J112
              have w44 : _ := p112_1
              have w45 : _ := p112_2
              have w46 : _ := p112_3
              have w47 : _ := p112_4
              have u30 := xeq (kp_i KC 30 rfl)
              have u31 := xeq (kp_i KC 31 rfl)
              have u32 := xeq (kp_i KC 32 rfl)
              have g5 : (x2.toInt < 6 ∧ ps_a s112 1145 (ps_i s18 1131 29).toInt.toNat = 0) ∨ (6 ≤ x2.toInt ∧ ps_a s112 1145 (ps_i s18 1131 29).toInt.toNat ≠ 0) := by first | exact Or.inl ⟨by omega, ((w45 _).trans (if_pos rfl)).trans (by decide)⟩ | exact Or.inr ⟨by omega, by rw [(w45 _).trans (if_pos rfl)]; decide⟩
              have g7 : ps_a s112 1147 (ps_i s18 1131 29).toInt.toNat = 0 := ((w47 _).trans (if_pos rfl)).trans (by decide)
              have g4 := congrArg Int32.toInt ((w44 (ps_i s18 1131 29).toInt.toNat).trans (if_pos rfl))
              have a115 : ((ps_i s112 1131 29) - 1).toInt = (ps_i s112 1131 29).toInt - (1 : Int) := xIs (show -2147483648 ≤ (ps_i s112 1131 29).toInt - (1 : Int) from by omega) (show (ps_i s112 1131 29).toInt - (1 : Int) < 2147483648 from by omega)
              have e9 : Int32.toNatClampNeg ((ps_i s112 1131 29) - 1) = (ps_i s18 1131 29).toInt.toNat := nx (show ((ps_i s112 1131 29) - 1).toInt = (ps_i s18 1131 29).toInt from by omega)
              refine ps_nd_i (show pm_in ((ps_i s112 1131 29) - 1) 16 = true from xgi (show 0 ≤ ((ps_i s112 1131 29) - 1).toInt from by omega) (show ((ps_i s112 1131 29) - 1).toInt < 16 from by omega)) ?_
              have J116 := mwa_n 1146 (i := (Int32.toNatClampNeg ((ps_i s112 1131 29) - 1))) (v := (x3 &&& 1)) J112 rfl (by decide)
              have K117 := kpa' K113 (r := 1146) (i := (Int32.toNatClampNeg ((ps_i s112 1131 29) - 1))) (v := (x3 &&& 1)) rfl
              have g6 : ps_a (ps_ua s112 1146 (Int32.toNatClampNeg ((ps_i s112 1131 29) - 1)) (x3 &&& 1)) 1146 (ps_i s18 1131 29).toInt.toNat = (x3 &&& 1) := by rw [← e9]; exact ua_eq
              have g6l : ∀ i, i < (ps_i s18 1131 29).toInt.toNat → ps_a (ps_ua s112 1146 (Int32.toNatClampNeg ((ps_i s112 1131 29) - 1)) (x3 &&& 1)) 1146 i = ps_a s18 1146 i := fun i hi => (ua_ne (by omega)).trans ((w46 i).trans (if_neg (by omega)))
              have r118 := mf_8 J112
              have u119 : (ps_i s112 1131 8).toInt = (ps_i s18 1131 8).toInt := xeq (kp_i K112 8 rfl)
              have r120 := mf_4 J112
              have u121 : (ps_i s112 1131 4).toInt = (ps_i s18 1131 4).toInt := xeq (kp_i K112 4 rfl)
              have r122 := mf_5 J112
              have u123 : (ps_i s112 1131 5).toInt = (ps_i s18 1131 5).toInt := xeq (kp_i K112 5 rfl)
              have r124 := mf_5 J18
              have u125 : (ps_i s18 1131 5).toInt = (ps_i s12 1131 5).toInt := xeq (kp_i K18 5 rfl)
              have r126 := mf_5 J12
              have u127 : (ps_i s12 1131 5).toInt = (ps_i s 1131 5).toInt := xeq (kp_i K12 5 rfl)
              have u128 : (ps_i s112 1131 30).toInt = (ps_i s18 1131 30).toInt := xeq (kp_i K112 30 rfl)
              have u129 : (ps_i s18 1131 30).toInt = (ps_i s12 1131 30).toInt := xeq (kp_i K18 30 rfl)
              have u130 : (ps_i s12 1131 30).toInt = (ps_i s 1131 30).toInt := xeq (kp_i K12 30 rfl)
              have r131 := mf_31 J112
              have u132 : (ps_i s112 1131 31).toInt = (ps_i s18 1131 31).toInt := xeq (kp_i K112 31 rfl)
              have r133 := mf_31 J18
              have u134 : (ps_i s18 1131 31).toInt = (ps_i s12 1131 31).toInt := xeq (kp_i K18 31 rfl)
              have r135 := mf_31 J12
              have u136 : (ps_i s12 1131 31).toInt = ((ps_i s 1131 31) + x5).toInt := xeq (kp_i K12 31 rfl)
              exact k _ J116 K117 (show (ps_i s112 1131 8).toInt ≤ (ps_i s112 1131 4).toInt from by omega) (show 1 ≤ (ps_i s112 1131 5).toInt ∨ ((ps_i s112 1131 29).toInt ≤ 13 ∧ 0 ≤ (ps_i s112 1131 30).toInt ∧ (ps_i s112 1131 30).toInt ≤ 5 ∧ (ps_i s112 1131 31).toInt ≤ 40 ∧ (ps_i s0 1131 31).toInt < (ps_i s112 1131 31).toInt) from by omega) (show (ps_i s0 1131 31).toInt ≤ (ps_i s112 1131 31).toInt from by omega) ((by first | (exfalso; omega) | exact Or.inr ⟨_, hR2, (by
      have n1 : (ps_i s112 1131 29).toInt = (ps_i s18 1131 29).toInt + 1 := by omega
      rcases i11 with z | z
      · refine RQ_c hH (by omega) (by omega) (kS_push (g := ps_a (ps_ua s112 1146 (Int32.toNatClampNeg ((ps_i s112 1131 29) - 1)) (x3 &&& 1)) 1145 (ps_i s18 1131 29).toInt.toNat) ?_) ?_ g4 (g6.trans (by rw [show x3 = 0 from x0 z.1]; decide)) (show (ps_i s112 1131 30).toInt = (ps_i s18 1131 30).toInt + (if x2.toInt.toNat = 4 ∨ x2.toInt.toNat = 5 then 1 else 0) from by rw [if_neg (by omega)]; omega) ⟨fun _ => by omega, fun _ => g7⟩ (fun i hi => ⟨(w44 i).trans (if_neg (by omega)), (w45 i).trans (if_neg (by omega)), g6l i hi, (w47 i).trans (if_neg (by omega))⟩) n1 (show (ps_i s112 1131 31).toInt = ((ps_i s18 1131 31).toInt - x5.toInt) + 1 from by omega) (show (ps_i (ps_ua s112 1146 (Int32.toNatClampNeg ((ps_i s112 1131 29) - 1)) (x3 &&& 1)) 1131 32).toInt = (ps_i s18 1131 32).toInt from u32) (fun _ => by omega)
        · rcases hwv with q | q | q | q
          · omega
          · exact Or.inl ⟨by omega, q.2.2⟩
          · rcases g5 with g | g
            · exact Or.inr (Or.inl ⟨by omega, by omega, q.2.2.2, g.2⟩)
            · exact Or.inr (Or.inr (Or.inl ⟨by omega, q.2.2.2, g.2⟩))
          · rcases g5 with g | g
            · omega
            · exact Or.inr (Or.inr (Or.inr ⟨by omega, by omega, q.2.2.1, g.2⟩))
        · omega
      · exact RQ_not hH (by omega) (by omega) (by omega) (by rcases hwv with q | q | q | q; exact g4.trans q.2; omega; omega; omega) (by rcases g5 with g | g; exact g.2; omega) (by rw [g6, show x3 = 1 from xO1 z.1]; decide) (show (ps_i s112 1131 30).toInt = (ps_i s18 1131 30).toInt from by omega) g7 (fun i hi => ⟨(w44 i).trans (if_neg (by omega)), (w45 i).trans (if_neg (by omega)), g6l i hi, (w47 i).trans (if_neg (by omega))⟩) n1 (show (ps_i s112 1131 31).toInt = ((ps_i s18 1131 31).toInt - x5.toInt) + 2 from by omega) (show (ps_i (ps_ua s112 1146 (Int32.toNatClampNeg ((ps_i s112 1131 29) - 1)) (x3 &&& 1)) 1131 32).toInt = (ps_i s18 1131 32).toInt from u32))⟩)) (hO)
            · have f137 : (6 : Int) ≤ x2.toInt := xle h106
              have r138 := mf_29 J18
              have u139 : (ps_i s18 1131 29).toInt = (ps_i s12 1131 29).toInt := xeq (kp_i K18 29 rfl)
              have r140 := mf_29 J12
              have u141 : (ps_i s12 1131 29).toInt = (ps_i s 1131 29).toInt := xeq (kp_i K12 29 rfl)
              refine ms_211 J18 (show (ps_i s18 1131 29).toInt ≤ 14 from by omega) (fun s142 J142 K142 p142_0 p142_1 p142_2 p142_3 p142_4 => ?_)
              have K143 := kpt K19 K142 rfl rfl
              have KC := K142
              have hS2 : Sg (ps_a s142 1135) (ps_a s142 1136) (ps_a s142 1138) (ps_a s142 1139) (ps_i s142 1131 22).toInt σ := by rw [show ps_a s142 1135 = ps_a s18 1135 from (K142.2 1135 rfl).1, show ps_a s142 1136 = ps_a s18 1136 from (K142.2 1136 rfl).1, show ps_a s142 1138 = ps_a s18 1138 from (K142.2 1138 rfl).1, show ps_a s142 1139 = ps_a s18 1139 from (K142.2 1139 rfl).1, show ps_i s142 1131 22 = ps_i s18 1131 22 from kp_i K142 22 rfl]; exact hS2
              have hR2 : Rw (ps_a s142 1134) x1.toInt (l ++ [x2.toInt.toNat]) := by rw [show ps_a s142 1134 = ps_a s18 1134 from (K142.2 1134 rfl).1]; exact hR2
              have hO : ∀ i : Nat, (i : Int) < x1.toInt ∨ x1.toInt + 41 ≤ (i : Int) → ps_a s142 1134 i = ps_a s0 1134 i := by rw [show ps_a s142 1134 = ps_a s18 1134 from (K142.2 1134 rfl).1]; exact hO
              have p142_0' : (ps_i s142 1131 29).toInt = (ps_i s18 1131 29).toInt + 1 := p142_0
              have r144 := mf_29 J142
              have w44 : _ := p142_1
              have w45 : _ := p142_2
              have w46 : _ := p142_3
              have w47 : _ := p142_4
              have u30 := xeq (kp_i KC 30 rfl)
              have u31 := xeq (kp_i KC 31 rfl)
              have u32 := xeq (kp_i KC 32 rfl)
              have g5 : (x2.toInt < 6 ∧ ps_a s142 1145 (ps_i s18 1131 29).toInt.toNat = 0) ∨ (6 ≤ x2.toInt ∧ ps_a s142 1145 (ps_i s18 1131 29).toInt.toNat ≠ 0) := by first | exact Or.inl ⟨by omega, ((w45 _).trans (if_pos rfl)).trans (by decide)⟩ | exact Or.inr ⟨by omega, by rw [(w45 _).trans (if_pos rfl)]; decide⟩
              have g7 : ps_a s142 1147 (ps_i s18 1131 29).toInt.toNat = 0 := ((w47 _).trans (if_pos rfl)).trans (by decide)
              have g4 := congrArg Int32.toInt ((w44 (ps_i s18 1131 29).toInt.toNat).trans (if_pos rfl))
              have a145 : ((ps_i s142 1131 29) - 1).toInt = (ps_i s142 1131 29).toInt - (1 : Int) := xIs (show -2147483648 ≤ (ps_i s142 1131 29).toInt - (1 : Int) from by omega) (show (ps_i s142 1131 29).toInt - (1 : Int) < 2147483648 from by omega)
              have e9 : Int32.toNatClampNeg ((ps_i s142 1131 29) - 1) = (ps_i s18 1131 29).toInt.toNat := nx (show ((ps_i s142 1131 29) - 1).toInt = (ps_i s18 1131 29).toInt from by omega)
              refine ps_nd_i (show pm_in ((ps_i s142 1131 29) - 1) 16 = true from xgi (show 0 ≤ ((ps_i s142 1131 29) - 1).toInt from by omega) (show ((ps_i s142 1131 29) - 1).toInt < 16 from by omega)) ?_
              have J146 := mwa_n 1146 (i := (Int32.toNatClampNeg ((ps_i s142 1131 29) - 1))) (v := (x3 &&& 1)) J142 rfl (by decide)
              have K147 := kpa' K143 (r := 1146) (i := (Int32.toNatClampNeg ((ps_i s142 1131 29) - 1))) (v := (x3 &&& 1)) rfl
              have g6 : ps_a (ps_ua s142 1146 (Int32.toNatClampNeg ((ps_i s142 1131 29) - 1)) (x3 &&& 1)) 1146 (ps_i s18 1131 29).toInt.toNat = (x3 &&& 1) := by rw [← e9]; exact ua_eq
              have g6l : ∀ i, i < (ps_i s18 1131 29).toInt.toNat → ps_a (ps_ua s142 1146 (Int32.toNatClampNeg ((ps_i s142 1131 29) - 1)) (x3 &&& 1)) 1146 i = ps_a s18 1146 i := fun i hi => (ua_ne (by omega)).trans ((w46 i).trans (if_neg (by omega)))
              have r148 := mf_8 J142
              have u149 : (ps_i s142 1131 8).toInt = (ps_i s18 1131 8).toInt := xeq (kp_i K142 8 rfl)
              have r150 := mf_4 J142
              have u151 : (ps_i s142 1131 4).toInt = (ps_i s18 1131 4).toInt := xeq (kp_i K142 4 rfl)
              have r152 := mf_5 J142
              have u153 : (ps_i s142 1131 5).toInt = (ps_i s18 1131 5).toInt := xeq (kp_i K142 5 rfl)
              have r154 := mf_5 J18
              have u155 : (ps_i s18 1131 5).toInt = (ps_i s12 1131 5).toInt := xeq (kp_i K18 5 rfl)
              have r156 := mf_5 J12
              have u157 : (ps_i s12 1131 5).toInt = (ps_i s 1131 5).toInt := xeq (kp_i K12 5 rfl)
              have u158 : (ps_i s142 1131 30).toInt = (ps_i s18 1131 30).toInt := xeq (kp_i K142 30 rfl)
              have u159 : (ps_i s18 1131 30).toInt = (ps_i s12 1131 30).toInt := xeq (kp_i K18 30 rfl)
              have u160 : (ps_i s12 1131 30).toInt = (ps_i s 1131 30).toInt := xeq (kp_i K12 30 rfl)
              have r161 := mf_31 J142
              have u162 : (ps_i s142 1131 31).toInt = (ps_i s18 1131 31).toInt := xeq (kp_i K142 31 rfl)
              have r163 := mf_31 J18
              have u164 : (ps_i s18 1131 31).toInt = (ps_i s12 1131 31).toInt := xeq (kp_i K18 31 rfl)
              have r165 := mf_31 J12
              have u166 : (ps_i s12 1131 31).toInt = ((ps_i s 1131 31) + x5).toInt := xeq (kp_i K12 31 rfl)
              exact k _ J146 K147 (show (ps_i s142 1131 8).toInt ≤ (ps_i s142 1131 4).toInt from by omega) (show 1 ≤ (ps_i s142 1131 5).toInt ∨ ((ps_i s142 1131 29).toInt ≤ 13 ∧ 0 ≤ (ps_i s142 1131 30).toInt ∧ (ps_i s142 1131 30).toInt ≤ 5 ∧ (ps_i s142 1131 31).toInt ≤ 40 ∧ (ps_i s0 1131 31).toInt < (ps_i s142 1131 31).toInt) from by omega) (show (ps_i s0 1131 31).toInt ≤ (ps_i s142 1131 31).toInt from by omega) ((by first | (exfalso; omega) | exact Or.inr ⟨_, hR2, (by
      have n1 : (ps_i s142 1131 29).toInt = (ps_i s18 1131 29).toInt + 1 := by omega
      rcases i11 with z | z
      · refine RQ_c hH (by omega) (by omega) (kS_push (g := ps_a (ps_ua s142 1146 (Int32.toNatClampNeg ((ps_i s142 1131 29) - 1)) (x3 &&& 1)) 1145 (ps_i s18 1131 29).toInt.toNat) ?_) ?_ g4 (g6.trans (by rw [show x3 = 0 from x0 z.1]; decide)) (show (ps_i s142 1131 30).toInt = (ps_i s18 1131 30).toInt + (if x2.toInt.toNat = 4 ∨ x2.toInt.toNat = 5 then 1 else 0) from by rw [if_neg (by omega)]; omega) ⟨fun _ => by omega, fun _ => g7⟩ (fun i hi => ⟨(w44 i).trans (if_neg (by omega)), (w45 i).trans (if_neg (by omega)), g6l i hi, (w47 i).trans (if_neg (by omega))⟩) n1 (show (ps_i s142 1131 31).toInt = ((ps_i s18 1131 31).toInt - x5.toInt) + 1 from by omega) (show (ps_i (ps_ua s142 1146 (Int32.toNatClampNeg ((ps_i s142 1131 29) - 1)) (x3 &&& 1)) 1131 32).toInt = (ps_i s18 1131 32).toInt from u32) (fun _ => by omega)
        · rcases hwv with q | q | q | q
          · omega
          · exact Or.inl ⟨by omega, q.2.2⟩
          · rcases g5 with g | g
            · exact Or.inr (Or.inl ⟨by omega, by omega, q.2.2.2, g.2⟩)
            · exact Or.inr (Or.inr (Or.inl ⟨by omega, q.2.2.2, g.2⟩))
          · rcases g5 with g | g
            · omega
            · exact Or.inr (Or.inr (Or.inr ⟨by omega, by omega, q.2.2.1, g.2⟩))
        · omega
      · exact RQ_not hH (by omega) (by omega) (by omega) (by rcases hwv with q | q | q | q; exact g4.trans q.2; omega; omega; omega) (by rcases g5 with g | g; exact g.2; omega) (by rw [g6, show x3 = 1 from xO1 z.1]; decide) (show (ps_i s142 1131 30).toInt = (ps_i s18 1131 30).toInt from by omega) g7 (fun i hi => ⟨(w44 i).trans (if_neg (by omega)), (w45 i).trans (if_neg (by omega)), g6l i hi, (w47 i).trans (if_neg (by omega))⟩) n1 (show (ps_i s142 1131 31).toInt = ((ps_i s18 1131 31).toInt - x5.toInt) + 2 from by omega) (show (ps_i (ps_ua s142 1146 (Int32.toNatClampNeg ((ps_i s142 1131 29) - 1)) (x3 &&& 1)) 1131 32).toInt = (ps_i s18 1131 32).toInt from u32))⟩)) (hO)
        · have f167 : x2.toInt = (0 : Int) := xeq h27
          have hwv : (x3.toInt = 1 ∧ ((0 : Int32)).toInt = 1) ∨ (x3.toInt = 0 ∧ x2.toInt = 0 ∧ ((0 : Int32)).toInt = 0) ∨ (x3.toInt = 0 ∧ x2.toInt ≠ 0 ∧ x2.toInt < 10 ∧ ((0 : Int32)).toInt = 2) ∨ (x3.toInt = 0 ∧ 10 ≤ x2.toInt ∧ ((0 : Int32)).toInt = σ.2.1 (x2.toInt.toNat - 10) ∧ σ.2.1 (x2.toInt.toNat - 10) ≤ 2) := by first | exact Or.inl ⟨by omega, by decide⟩ | exact Or.inr (Or.inl ⟨by omega, by omega, by decide⟩) | exact Or.inr (Or.inr (Or.inl ⟨by omega, by omega, by omega, by decide⟩)) | exact Or.inr (Or.inr (Or.inr ⟨by omega, by omega, Sg_r hS2 (by omega) (by omega)⟩))
          refine And.intro (fun h168 => ?_) (fun h168 => ?_)
          · have f169 : x2.toInt < (6 : Int) := xlt h168
            have r170 := mf_29 J18
            have u171 : (ps_i s18 1131 29).toInt = (ps_i s12 1131 29).toInt := xeq (kp_i K18 29 rfl)
            have r172 := mf_29 J12
            have u173 : (ps_i s12 1131 29).toInt = (ps_i s 1131 29).toInt := xeq (kp_i K12 29 rfl)
            refine ms_211 J18 (show (ps_i s18 1131 29).toInt ≤ 14 from by omega) (fun s174 J174 K174 p174_0 p174_1 p174_2 p174_3 p174_4 => ?_)
            have K175 := kpt K19 K174 rfl rfl
            have KC := K174
            have hS2 : Sg (ps_a s174 1135) (ps_a s174 1136) (ps_a s174 1138) (ps_a s174 1139) (ps_i s174 1131 22).toInt σ := by rw [show ps_a s174 1135 = ps_a s18 1135 from (K174.2 1135 rfl).1, show ps_a s174 1136 = ps_a s18 1136 from (K174.2 1136 rfl).1, show ps_a s174 1138 = ps_a s18 1138 from (K174.2 1138 rfl).1, show ps_a s174 1139 = ps_a s18 1139 from (K174.2 1139 rfl).1, show ps_i s174 1131 22 = ps_i s18 1131 22 from kp_i K174 22 rfl]; exact hS2
            have hR2 : Rw (ps_a s174 1134) x1.toInt (l ++ [x2.toInt.toNat]) := by rw [show ps_a s174 1134 = ps_a s18 1134 from (K174.2 1134 rfl).1]; exact hR2
            have hO : ∀ i : Nat, (i : Int) < x1.toInt ∨ x1.toInt + 41 ≤ (i : Int) → ps_a s174 1134 i = ps_a s0 1134 i := by rw [show ps_a s174 1134 = ps_a s18 1134 from (K174.2 1134 rfl).1]; exact hO
            have p174_0' : (ps_i s174 1131 29).toInt = (ps_i s18 1131 29).toInt + 1 := p174_0
            have r176 := mf_29 J174
            have w44 : _ := p174_1
            have w45 : _ := p174_2
            have w46 : _ := p174_3
            have w47 : _ := p174_4
            have u30 := xeq (kp_i KC 30 rfl)
            have u31 := xeq (kp_i KC 31 rfl)
            have u32 := xeq (kp_i KC 32 rfl)
            have g5 : (x2.toInt < 6 ∧ ps_a s174 1145 (ps_i s18 1131 29).toInt.toNat = 0) ∨ (6 ≤ x2.toInt ∧ ps_a s174 1145 (ps_i s18 1131 29).toInt.toNat ≠ 0) := by first | exact Or.inl ⟨by omega, ((w45 _).trans (if_pos rfl)).trans (by decide)⟩ | exact Or.inr ⟨by omega, by rw [(w45 _).trans (if_pos rfl)]; decide⟩
            have g7 : ps_a s174 1147 (ps_i s18 1131 29).toInt.toNat = 0 := ((w47 _).trans (if_pos rfl)).trans (by decide)
            have g4 := congrArg Int32.toInt ((w44 (ps_i s18 1131 29).toInt.toNat).trans (if_pos rfl))
            have a177 : ((ps_i s174 1131 29) - 1).toInt = (ps_i s174 1131 29).toInt - (1 : Int) := xIs (show -2147483648 ≤ (ps_i s174 1131 29).toInt - (1 : Int) from by omega) (show (ps_i s174 1131 29).toInt - (1 : Int) < 2147483648 from by omega)
            have e9 : Int32.toNatClampNeg ((ps_i s174 1131 29) - 1) = (ps_i s18 1131 29).toInt.toNat := nx (show ((ps_i s174 1131 29) - 1).toInt = (ps_i s18 1131 29).toInt from by omega)
            refine ps_nd_i (show pm_in ((ps_i s174 1131 29) - 1) 16 = true from xgi (show 0 ≤ ((ps_i s174 1131 29) - 1).toInt from by omega) (show ((ps_i s174 1131 29) - 1).toInt < 16 from by omega)) ?_
            have J178 := mwa_n 1146 (i := (Int32.toNatClampNeg ((ps_i s174 1131 29) - 1))) (v := (x3 &&& 1)) J174 rfl (by decide)
            have K179 := kpa' K175 (r := 1146) (i := (Int32.toNatClampNeg ((ps_i s174 1131 29) - 1))) (v := (x3 &&& 1)) rfl
            have g6 : ps_a (ps_ua s174 1146 (Int32.toNatClampNeg ((ps_i s174 1131 29) - 1)) (x3 &&& 1)) 1146 (ps_i s18 1131 29).toInt.toNat = (x3 &&& 1) := by rw [← e9]; exact ua_eq
            have g6l : ∀ i, i < (ps_i s18 1131 29).toInt.toNat → ps_a (ps_ua s174 1146 (Int32.toNatClampNeg ((ps_i s174 1131 29) - 1)) (x3 &&& 1)) 1146 i = ps_a s18 1146 i := fun i hi => (ua_ne (by omega)).trans ((w46 i).trans (if_neg (by omega)))
            have r180 := mf_8 J174
            have u181 : (ps_i s174 1131 8).toInt = (ps_i s18 1131 8).toInt := xeq (kp_i K174 8 rfl)
            have r182 := mf_4 J174
            have u183 : (ps_i s174 1131 4).toInt = (ps_i s18 1131 4).toInt := xeq (kp_i K174 4 rfl)
            have r184 := mf_5 J174
            have u185 : (ps_i s174 1131 5).toInt = (ps_i s18 1131 5).toInt := xeq (kp_i K174 5 rfl)
            have r186 := mf_5 J18
            have u187 : (ps_i s18 1131 5).toInt = (ps_i s12 1131 5).toInt := xeq (kp_i K18 5 rfl)
            have r188 := mf_5 J12
            have u189 : (ps_i s12 1131 5).toInt = (ps_i s 1131 5).toInt := xeq (kp_i K12 5 rfl)
            have u190 : (ps_i s174 1131 30).toInt = (ps_i s18 1131 30).toInt := xeq (kp_i K174 30 rfl)
            have u191 : (ps_i s18 1131 30).toInt = (ps_i s12 1131 30).toInt := xeq (kp_i K18 30 rfl)
            have u192 : (ps_i s12 1131 30).toInt = (ps_i s 1131 30).toInt := xeq (kp_i K12 30 rfl)
            have r193 := mf_31 J174
            have u194 : (ps_i s174 1131 31).toInt = (ps_i s18 1131 31).toInt := xeq (kp_i K174 31 rfl)
            have r195 := mf_31 J18
            have u196 : (ps_i s18 1131 31).toInt = (ps_i s12 1131 31).toInt := xeq (kp_i K18 31 rfl)
            have r197 := mf_31 J12
            have u198 : (ps_i s12 1131 31).toInt = ((ps_i s 1131 31) + x5).toInt := xeq (kp_i K12 31 rfl)
            exact k _ J178 K179 (show (ps_i s174 1131 8).toInt ≤ (ps_i s174 1131 4).toInt from by omega) (show 1 ≤ (ps_i s174 1131 5).toInt ∨ ((ps_i s174 1131 29).toInt ≤ 13 ∧ 0 ≤ (ps_i s174 1131 30).toInt ∧ (ps_i s174 1131 30).toInt ≤ 5 ∧ (ps_i s174 1131 31).toInt ≤ 40 ∧ (ps_i s0 1131 31).toInt < (ps_i s174 1131 31).toInt) from by omega) (show (ps_i s0 1131 31).toInt ≤ (ps_i s174 1131 31).toInt from by omega) ((by first | (exfalso; omega) | exact Or.inr ⟨_, hR2, (by
      have n1 : (ps_i s174 1131 29).toInt = (ps_i s18 1131 29).toInt + 1 := by omega
      rcases i11 with z | z
      · refine RQ_c hH (by omega) (by omega) (kS_push (g := ps_a (ps_ua s174 1146 (Int32.toNatClampNeg ((ps_i s174 1131 29) - 1)) (x3 &&& 1)) 1145 (ps_i s18 1131 29).toInt.toNat) ?_) ?_ g4 (g6.trans (by rw [show x3 = 0 from x0 z.1]; decide)) (show (ps_i s174 1131 30).toInt = (ps_i s18 1131 30).toInt + (if x2.toInt.toNat = 4 ∨ x2.toInt.toNat = 5 then 1 else 0) from by rw [if_neg (by omega)]; omega) ⟨fun _ => by omega, fun _ => g7⟩ (fun i hi => ⟨(w44 i).trans (if_neg (by omega)), (w45 i).trans (if_neg (by omega)), g6l i hi, (w47 i).trans (if_neg (by omega))⟩) n1 (show (ps_i s174 1131 31).toInt = ((ps_i s18 1131 31).toInt - x5.toInt) + 1 from by omega) (show (ps_i (ps_ua s174 1146 (Int32.toNatClampNeg ((ps_i s174 1131 29) - 1)) (x3 &&& 1)) 1131 32).toInt = (ps_i s18 1131 32).toInt from u32) (fun _ => by omega)
        · rcases hwv with q | q | q | q
          · omega
          · exact Or.inl ⟨by omega, q.2.2⟩
          · rcases g5 with g | g
            · exact Or.inr (Or.inl ⟨by omega, by omega, q.2.2.2, g.2⟩)
            · exact Or.inr (Or.inr (Or.inl ⟨by omega, q.2.2.2, g.2⟩))
          · rcases g5 with g | g
            · omega
            · exact Or.inr (Or.inr (Or.inr ⟨by omega, by omega, q.2.2.1, g.2⟩))
        · omega
      · exact RQ_not hH (by omega) (by omega) (by omega) (by rcases hwv with q | q | q | q; exact g4.trans q.2; omega; omega; omega) (by rcases g5 with g | g; exact g.2; omega) (by rw [g6, show x3 = 1 from xO1 z.1]; decide) (show (ps_i s174 1131 30).toInt = (ps_i s18 1131 30).toInt from by omega) g7 (fun i hi => ⟨(w44 i).trans (if_neg (by omega)), (w45 i).trans (if_neg (by omega)), g6l i hi, (w47 i).trans (if_neg (by omega))⟩) n1 (show (ps_i s174 1131 31).toInt = ((ps_i s18 1131 31).toInt - x5.toInt) + 2 from by omega) (show (ps_i (ps_ua s174 1146 (Int32.toNatClampNeg ((ps_i s174 1131 29) - 1)) (x3 &&& 1)) 1131 32).toInt = (ps_i s18 1131 32).toInt from u32))⟩)) (hO)
          · have f199 : (6 : Int) ≤ x2.toInt := xle h168
            have r200 := mf_29 J18
            have u201 : (ps_i s18 1131 29).toInt = (ps_i s12 1131 29).toInt := xeq (kp_i K18 29 rfl)
            have r202 := mf_29 J12
            have u203 : (ps_i s12 1131 29).toInt = (ps_i s 1131 29).toInt := xeq (kp_i K12 29 rfl)
            refine ms_211 J18 (show (ps_i s18 1131 29).toInt ≤ 14 from by omega) (fun s204 J204 K204 p204_0 p204_1 p204_2 p204_3 p204_4 => ?_)
            have K205 := kpt K19 K204 rfl rfl
            have KC := K204
            have hS2 : Sg (ps_a s204 1135) (ps_a s204 1136) (ps_a s204 1138) (ps_a s204 1139) (ps_i s204 1131 22).toInt σ := by rw [show ps_a s204 1135 = ps_a s18 1135 from (K204.2 1135 rfl).1, show ps_a s204 1136 = ps_a s18 1136 from (K204.2 1136 rfl).1, show ps_a s204 1138 = ps_a s18 1138 from (K204.2 1138 rfl).1, show ps_a s204 1139 = ps_a s18 1139 from (K204.2 1139 rfl).1, show ps_i s204 1131 22 = ps_i s18 1131 22 from kp_i K204 22 rfl]; exact hS2
            have hR2 : Rw (ps_a s204 1134) x1.toInt (l ++ [x2.toInt.toNat]) := by rw [show ps_a s204 1134 = ps_a s18 1134 from (K204.2 1134 rfl).1]; exact hR2
            have hO : ∀ i : Nat, (i : Int) < x1.toInt ∨ x1.toInt + 41 ≤ (i : Int) → ps_a s204 1134 i = ps_a s0 1134 i := by rw [show ps_a s204 1134 = ps_a s18 1134 from (K204.2 1134 rfl).1]; exact hO
            have p204_0' : (ps_i s204 1131 29).toInt = (ps_i s18 1131 29).toInt + 1 := p204_0
            have r206 := mf_29 J204
            have w44 : _ := p204_1
            have w45 : _ := p204_2
            have w46 : _ := p204_3
            have w47 : _ := p204_4
            have u30 := xeq (kp_i KC 30 rfl)
            have u31 := xeq (kp_i KC 31 rfl)
            have u32 := xeq (kp_i KC 32 rfl)
            have g5 : (x2.toInt < 6 ∧ ps_a s204 1145 (ps_i s18 1131 29).toInt.toNat = 0) ∨ (6 ≤ x2.toInt ∧ ps_a s204 1145 (ps_i s18 1131 29).toInt.toNat ≠ 0) := by first | exact Or.inl ⟨by omega, ((w45 _).trans (if_pos rfl)).trans (by decide)⟩ | exact Or.inr ⟨by omega, by rw [(w45 _).trans (if_pos rfl)]; decide⟩
            have g7 : ps_a s204 1147 (ps_i s18 1131 29).toInt.toNat = 0 := ((w47 _).trans (if_pos rfl)).trans (by decide)
            have g4 := congrArg Int32.toInt ((w44 (ps_i s18 1131 29).toInt.toNat).trans (if_pos rfl))
            have a207 : ((ps_i s204 1131 29) - 1).toInt = (ps_i s204 1131 29).toInt - (1 : Int) := xIs (show -2147483648 ≤ (ps_i s204 1131 29).toInt - (1 : Int) from by omega) (show (ps_i s204 1131 29).toInt - (1 : Int) < 2147483648 from by omega)
            have e9 : Int32.toNatClampNeg ((ps_i s204 1131 29) - 1) = (ps_i s18 1131 29).toInt.toNat := nx (show ((ps_i s204 1131 29) - 1).toInt = (ps_i s18 1131 29).toInt from by omega)
            refine ps_nd_i (show pm_in ((ps_i s204 1131 29) - 1) 16 = true from xgi (show 0 ≤ ((ps_i s204 1131 29) - 1).toInt from by omega) (show ((ps_i s204 1131 29) - 1).toInt < 16 from by omega)) ?_
            have J208 := mwa_n 1146 (i := (Int32.toNatClampNeg ((ps_i s204 1131 29) - 1))) (v := (x3 &&& 1)) J204 rfl (by decide)
            have K209 := kpa' K205 (r := 1146) (i := (Int32.toNatClampNeg ((ps_i s204 1131 29) - 1))) (v := (x3 &&& 1)) rfl
            have g6 : ps_a (ps_ua s204 1146 (Int32.toNatClampNeg ((ps_i s204 1131 29) - 1)) (x3 &&& 1)) 1146 (ps_i s18 1131 29).toInt.toNat = (x3 &&& 1) := by rw [← e9]; exact ua_eq
            have g6l : ∀ i, i < (ps_i s18 1131 29).toInt.toNat → ps_a (ps_ua s204 1146 (Int32.toNatClampNeg ((ps_i s204 1131 29) - 1)) (x3 &&& 1)) 1146 i = ps_a s18 1146 i := fun i hi => (ua_ne (by omega)).trans ((w46 i).trans (if_neg (by omega)))
            have r210 := mf_8 J204
            have u211 : (ps_i s204 1131 8).toInt = (ps_i s18 1131 8).toInt := xeq (kp_i K204 8 rfl)
            have r212 := mf_4 J204
            have u213 : (ps_i s204 1131 4).toInt = (ps_i s18 1131 4).toInt := xeq (kp_i K204 4 rfl)
            have r214 := mf_5 J204
            have u215 : (ps_i s204 1131 5).toInt = (ps_i s18 1131 5).toInt := xeq (kp_i K204 5 rfl)
            have r216 := mf_5 J18
            have u217 : (ps_i s18 1131 5).toInt = (ps_i s12 1131 5).toInt := xeq (kp_i K18 5 rfl)
            have r218 := mf_5 J12
            have u219 : (ps_i s12 1131 5).toInt = (ps_i s 1131 5).toInt := xeq (kp_i K12 5 rfl)
            have u220 : (ps_i s204 1131 30).toInt = (ps_i s18 1131 30).toInt := xeq (kp_i K204 30 rfl)
            have u221 : (ps_i s18 1131 30).toInt = (ps_i s12 1131 30).toInt := xeq (kp_i K18 30 rfl)
            have u222 : (ps_i s12 1131 30).toInt = (ps_i s 1131 30).toInt := xeq (kp_i K12 30 rfl)
            have r223 := mf_31 J204
            have u224 : (ps_i s204 1131 31).toInt = (ps_i s18 1131 31).toInt := xeq (kp_i K204 31 rfl)
            have r225 := mf_31 J18
            have u226 : (ps_i s18 1131 31).toInt = (ps_i s12 1131 31).toInt := xeq (kp_i K18 31 rfl)
            have r227 := mf_31 J12
            have u228 : (ps_i s12 1131 31).toInt = ((ps_i s 1131 31) + x5).toInt := xeq (kp_i K12 31 rfl)
            exact k _ J208 K209 (show (ps_i s204 1131 8).toInt ≤ (ps_i s204 1131 4).toInt from by omega) (show 1 ≤ (ps_i s204 1131 5).toInt ∨ ((ps_i s204 1131 29).toInt ≤ 13 ∧ 0 ≤ (ps_i s204 1131 30).toInt ∧ (ps_i s204 1131 30).toInt ≤ 5 ∧ (ps_i s204 1131 31).toInt ≤ 40 ∧ (ps_i s0 1131 31).toInt < (ps_i s204 1131 31).toInt) from by omega) (show (ps_i s0 1131 31).toInt ≤ (ps_i s204 1131 31).toInt from by omega) ((by first | (exfalso; omega) | exact Or.inr ⟨_, hR2, (by
      have n1 : (ps_i s204 1131 29).toInt = (ps_i s18 1131 29).toInt + 1 := by omega
      rcases i11 with z | z
      · refine RQ_c hH (by omega) (by omega) (kS_push (g := ps_a (ps_ua s204 1146 (Int32.toNatClampNeg ((ps_i s204 1131 29) - 1)) (x3 &&& 1)) 1145 (ps_i s18 1131 29).toInt.toNat) ?_) ?_ g4 (g6.trans (by rw [show x3 = 0 from x0 z.1]; decide)) (show (ps_i s204 1131 30).toInt = (ps_i s18 1131 30).toInt + (if x2.toInt.toNat = 4 ∨ x2.toInt.toNat = 5 then 1 else 0) from by rw [if_neg (by omega)]; omega) ⟨fun _ => by omega, fun _ => g7⟩ (fun i hi => ⟨(w44 i).trans (if_neg (by omega)), (w45 i).trans (if_neg (by omega)), g6l i hi, (w47 i).trans (if_neg (by omega))⟩) n1 (show (ps_i s204 1131 31).toInt = ((ps_i s18 1131 31).toInt - x5.toInt) + 1 from by omega) (show (ps_i (ps_ua s204 1146 (Int32.toNatClampNeg ((ps_i s204 1131 29) - 1)) (x3 &&& 1)) 1131 32).toInt = (ps_i s18 1131 32).toInt from u32) (fun _ => by omega)
        · rcases hwv with q | q | q | q
          · omega
          · exact Or.inl ⟨by omega, q.2.2⟩
          · rcases g5 with g | g
            · exact Or.inr (Or.inl ⟨by omega, by omega, q.2.2.2, g.2⟩)
            · exact Or.inr (Or.inr (Or.inl ⟨by omega, q.2.2.2, g.2⟩))
          · rcases g5 with g | g
            · omega
            · exact Or.inr (Or.inr (Or.inr ⟨by omega, by omega, q.2.2.1, g.2⟩))
        · omega
      · exact RQ_not hH (by omega) (by omega) (by omega) (by rcases hwv with q | q | q | q; exact g4.trans q.2; omega; omega; omega) (by rcases g5 with g | g; exact g.2; omega) (by rw [g6, show x3 = 1 from xO1 z.1]; decide) (show (ps_i s204 1131 30).toInt = (ps_i s18 1131 30).toInt from by omega) g7 (fun i hi => ⟨(w44 i).trans (if_neg (by omega)), (w45 i).trans (if_neg (by omega)), g6l i hi, (w47 i).trans (if_neg (by omega))⟩) n1 (show (ps_i s204 1131 31).toInt = ((ps_i s18 1131 31).toInt - x5.toInt) + 2 from by omega) (show (ps_i (ps_ua s204 1146 (Int32.toNatClampNeg ((ps_i s204 1131 29) - 1)) (x3 &&& 1)) 1131 32).toInt = (ps_i s18 1131 32).toInt from u32))⟩)) (hO)
      · have f229 : x3.toInt ≠ (0 : Int) := xne h25
        have hwv : (x3.toInt = 1 ∧ ((1 : Int32)).toInt = 1) ∨ (x3.toInt = 0 ∧ x2.toInt = 0 ∧ ((1 : Int32)).toInt = 0) ∨ (x3.toInt = 0 ∧ x2.toInt ≠ 0 ∧ x2.toInt < 10 ∧ ((1 : Int32)).toInt = 2) ∨ (x3.toInt = 0 ∧ 10 ≤ x2.toInt ∧ ((1 : Int32)).toInt = σ.2.1 (x2.toInt.toNat - 10) ∧ σ.2.1 (x2.toInt.toNat - 10) ≤ 2) := by first | exact Or.inl ⟨by omega, by decide⟩ | exact Or.inr (Or.inl ⟨by omega, by omega, by decide⟩) | exact Or.inr (Or.inr (Or.inl ⟨by omega, by omega, by omega, by decide⟩)) | exact Or.inr (Or.inr (Or.inr ⟨by omega, by omega, Sg_r hS2 (by omega) (by omega)⟩))
        refine And.intro (fun h230 => ?_) (fun h230 => ?_)
        · have f231 : x2.toInt < (6 : Int) := xlt h230
          have r232 := mf_29 J18
          have u233 : (ps_i s18 1131 29).toInt = (ps_i s12 1131 29).toInt := xeq (kp_i K18 29 rfl)
          have r234 := mf_29 J12
          have u235 : (ps_i s12 1131 29).toInt = (ps_i s 1131 29).toInt := xeq (kp_i K12 29 rfl)
          refine ms_211 J18 (show (ps_i s18 1131 29).toInt ≤ 14 from by omega) (fun s236 J236 K236 p236_0 p236_1 p236_2 p236_3 p236_4 => ?_)
          have K237 := kpt K19 K236 rfl rfl
          have KC := K236
          have hS2 : Sg (ps_a s236 1135) (ps_a s236 1136) (ps_a s236 1138) (ps_a s236 1139) (ps_i s236 1131 22).toInt σ := by rw [show ps_a s236 1135 = ps_a s18 1135 from (K236.2 1135 rfl).1, show ps_a s236 1136 = ps_a s18 1136 from (K236.2 1136 rfl).1, show ps_a s236 1138 = ps_a s18 1138 from (K236.2 1138 rfl).1, show ps_a s236 1139 = ps_a s18 1139 from (K236.2 1139 rfl).1, show ps_i s236 1131 22 = ps_i s18 1131 22 from kp_i K236 22 rfl]; exact hS2
          have hR2 : Rw (ps_a s236 1134) x1.toInt (l ++ [x2.toInt.toNat]) := by rw [show ps_a s236 1134 = ps_a s18 1134 from (K236.2 1134 rfl).1]; exact hR2
          have hO : ∀ i : Nat, (i : Int) < x1.toInt ∨ x1.toInt + 41 ≤ (i : Int) → ps_a s236 1134 i = ps_a s0 1134 i := by rw [show ps_a s236 1134 = ps_a s18 1134 from (K236.2 1134 rfl).1]; exact hO
          have p236_0' : (ps_i s236 1131 29).toInt = (ps_i s18 1131 29).toInt + 1 := p236_0
          have r238 := mf_29 J236
          have w44 : _ := p236_1
          have w45 : _ := p236_2
          have w46 : _ := p236_3
          have w47 : _ := p236_4
          have u30 := xeq (kp_i KC 30 rfl)
          have u31 := xeq (kp_i KC 31 rfl)
          have u32 := xeq (kp_i KC 32 rfl)
          have g5 : (x2.toInt < 6 ∧ ps_a s236 1145 (ps_i s18 1131 29).toInt.toNat = 0) ∨ (6 ≤ x2.toInt ∧ ps_a s236 1145 (ps_i s18 1131 29).toInt.toNat ≠ 0) := by first | exact Or.inl ⟨by omega, ((w45 _).trans (if_pos rfl)).trans (by decide)⟩ | exact Or.inr ⟨by omega, by rw [(w45 _).trans (if_pos rfl)]; decide⟩
          have g7 : ps_a s236 1147 (ps_i s18 1131 29).toInt.toNat = 0 := ((w47 _).trans (if_pos rfl)).trans (by decide)
          have g4 := congrArg Int32.toInt ((w44 (ps_i s18 1131 29).toInt.toNat).trans (if_pos rfl))
          have a239 : ((ps_i s236 1131 29) - 1).toInt = (ps_i s236 1131 29).toInt - (1 : Int) := xIs (show -2147483648 ≤ (ps_i s236 1131 29).toInt - (1 : Int) from by omega) (show (ps_i s236 1131 29).toInt - (1 : Int) < 2147483648 from by omega)
          have e9 : Int32.toNatClampNeg ((ps_i s236 1131 29) - 1) = (ps_i s18 1131 29).toInt.toNat := nx (show ((ps_i s236 1131 29) - 1).toInt = (ps_i s18 1131 29).toInt from by omega)
          refine ps_nd_i (show pm_in ((ps_i s236 1131 29) - 1) 16 = true from xgi (show 0 ≤ ((ps_i s236 1131 29) - 1).toInt from by omega) (show ((ps_i s236 1131 29) - 1).toInt < 16 from by omega)) ?_
          have J240 := mwa_n 1146 (i := (Int32.toNatClampNeg ((ps_i s236 1131 29) - 1))) (v := (x3 &&& 1)) J236 rfl (by decide)
          have K241 := kpa' K237 (r := 1146) (i := (Int32.toNatClampNeg ((ps_i s236 1131 29) - 1))) (v := (x3 &&& 1)) rfl
          have g6 : ps_a (ps_ua s236 1146 (Int32.toNatClampNeg ((ps_i s236 1131 29) - 1)) (x3 &&& 1)) 1146 (ps_i s18 1131 29).toInt.toNat = (x3 &&& 1) := by rw [← e9]; exact ua_eq
          have g6l : ∀ i, i < (ps_i s18 1131 29).toInt.toNat → ps_a (ps_ua s236 1146 (Int32.toNatClampNeg ((ps_i s236 1131 29) - 1)) (x3 &&& 1)) 1146 i = ps_a s18 1146 i := fun i hi => (ua_ne (by omega)).trans ((w46 i).trans (if_neg (by omega)))
          have r242 := mf_8 J236
          have u243 : (ps_i s236 1131 8).toInt = (ps_i s18 1131 8).toInt := xeq (kp_i K236 8 rfl)
          have r244 := mf_4 J236
          have u245 : (ps_i s236 1131 4).toInt = (ps_i s18 1131 4).toInt := xeq (kp_i K236 4 rfl)
          have r246 := mf_5 J236
          have u247 : (ps_i s236 1131 5).toInt = (ps_i s18 1131 5).toInt := xeq (kp_i K236 5 rfl)
          have r248 := mf_5 J18
          have u249 : (ps_i s18 1131 5).toInt = (ps_i s12 1131 5).toInt := xeq (kp_i K18 5 rfl)
          have r250 := mf_5 J12
          have u251 : (ps_i s12 1131 5).toInt = (ps_i s 1131 5).toInt := xeq (kp_i K12 5 rfl)
          have u252 : (ps_i s236 1131 30).toInt = (ps_i s18 1131 30).toInt := xeq (kp_i K236 30 rfl)
          have u253 : (ps_i s18 1131 30).toInt = (ps_i s12 1131 30).toInt := xeq (kp_i K18 30 rfl)
          have u254 : (ps_i s12 1131 30).toInt = (ps_i s 1131 30).toInt := xeq (kp_i K12 30 rfl)
          have r255 := mf_31 J236
          have u256 : (ps_i s236 1131 31).toInt = (ps_i s18 1131 31).toInt := xeq (kp_i K236 31 rfl)
          have r257 := mf_31 J18
          have u258 : (ps_i s18 1131 31).toInt = (ps_i s12 1131 31).toInt := xeq (kp_i K18 31 rfl)
          have r259 := mf_31 J12
          have u260 : (ps_i s12 1131 31).toInt = ((ps_i s 1131 31) + x5).toInt := xeq (kp_i K12 31 rfl)
          exact k _ J240 K241 (show (ps_i s236 1131 8).toInt ≤ (ps_i s236 1131 4).toInt from by omega) (show 1 ≤ (ps_i s236 1131 5).toInt ∨ ((ps_i s236 1131 29).toInt ≤ 13 ∧ 0 ≤ (ps_i s236 1131 30).toInt ∧ (ps_i s236 1131 30).toInt ≤ 5 ∧ (ps_i s236 1131 31).toInt ≤ 40 ∧ (ps_i s0 1131 31).toInt < (ps_i s236 1131 31).toInt) from by omega) (show (ps_i s0 1131 31).toInt ≤ (ps_i s236 1131 31).toInt from by omega) ((by first | (exfalso; omega) | exact Or.inr ⟨_, hR2, (by
      have n1 : (ps_i s236 1131 29).toInt = (ps_i s18 1131 29).toInt + 1 := by omega
      rcases i11 with z | z
      · refine RQ_c hH (by omega) (by omega) (kS_push (g := ps_a (ps_ua s236 1146 (Int32.toNatClampNeg ((ps_i s236 1131 29) - 1)) (x3 &&& 1)) 1145 (ps_i s18 1131 29).toInt.toNat) ?_) ?_ g4 (g6.trans (by rw [show x3 = 0 from x0 z.1]; decide)) (show (ps_i s236 1131 30).toInt = (ps_i s18 1131 30).toInt + (if x2.toInt.toNat = 4 ∨ x2.toInt.toNat = 5 then 1 else 0) from by rw [if_neg (by omega)]; omega) ⟨fun _ => by omega, fun _ => g7⟩ (fun i hi => ⟨(w44 i).trans (if_neg (by omega)), (w45 i).trans (if_neg (by omega)), g6l i hi, (w47 i).trans (if_neg (by omega))⟩) n1 (show (ps_i s236 1131 31).toInt = ((ps_i s18 1131 31).toInt - x5.toInt) + 1 from by omega) (show (ps_i (ps_ua s236 1146 (Int32.toNatClampNeg ((ps_i s236 1131 29) - 1)) (x3 &&& 1)) 1131 32).toInt = (ps_i s18 1131 32).toInt from u32) (fun _ => by omega)
        · rcases hwv with q | q | q | q
          · omega
          · exact Or.inl ⟨by omega, q.2.2⟩
          · rcases g5 with g | g
            · exact Or.inr (Or.inl ⟨by omega, by omega, q.2.2.2, g.2⟩)
            · exact Or.inr (Or.inr (Or.inl ⟨by omega, q.2.2.2, g.2⟩))
          · rcases g5 with g | g
            · omega
            · exact Or.inr (Or.inr (Or.inr ⟨by omega, by omega, q.2.2.1, g.2⟩))
        · omega
      · exact RQ_not hH (by omega) (by omega) (by omega) (by rcases hwv with q | q | q | q; exact g4.trans q.2; omega; omega; omega) (by rcases g5 with g | g; exact g.2; omega) (by rw [g6, show x3 = 1 from xO1 z.1]; decide) (show (ps_i s236 1131 30).toInt = (ps_i s18 1131 30).toInt from by omega) g7 (fun i hi => ⟨(w44 i).trans (if_neg (by omega)), (w45 i).trans (if_neg (by omega)), g6l i hi, (w47 i).trans (if_neg (by omega))⟩) n1 (show (ps_i s236 1131 31).toInt = ((ps_i s18 1131 31).toInt - x5.toInt) + 2 from by omega) (show (ps_i (ps_ua s236 1146 (Int32.toNatClampNeg ((ps_i s236 1131 29) - 1)) (x3 &&& 1)) 1131 32).toInt = (ps_i s18 1131 32).toInt from u32))⟩)) (hO)
        · have f261 : (6 : Int) ≤ x2.toInt := xle h230
          have r262 := mf_29 J18
          have u263 : (ps_i s18 1131 29).toInt = (ps_i s12 1131 29).toInt := xeq (kp_i K18 29 rfl)
          have r264 := mf_29 J12
          have u265 : (ps_i s12 1131 29).toInt = (ps_i s 1131 29).toInt := xeq (kp_i K12 29 rfl)
          refine ms_211 J18 (show (ps_i s18 1131 29).toInt ≤ 14 from by omega) (fun s266 J266 K266 p266_0 p266_1 p266_2 p266_3 p266_4 => ?_)
          have K267 := kpt K19 K266 rfl rfl
          have KC := K266
          have hS2 : Sg (ps_a s266 1135) (ps_a s266 1136) (ps_a s266 1138) (ps_a s266 1139) (ps_i s266 1131 22).toInt σ := by rw [show ps_a s266 1135 = ps_a s18 1135 from (K266.2 1135 rfl).1, show ps_a s266 1136 = ps_a s18 1136 from (K266.2 1136 rfl).1, show ps_a s266 1138 = ps_a s18 1138 from (K266.2 1138 rfl).1, show ps_a s266 1139 = ps_a s18 1139 from (K266.2 1139 rfl).1, show ps_i s266 1131 22 = ps_i s18 1131 22 from kp_i K266 22 rfl]; exact hS2
          have hR2 : Rw (ps_a s266 1134) x1.toInt (l ++ [x2.toInt.toNat]) := by rw [show ps_a s266 1134 = ps_a s18 1134 from (K266.2 1134 rfl).1]; exact hR2
          have hO : ∀ i : Nat, (i : Int) < x1.toInt ∨ x1.toInt + 41 ≤ (i : Int) → ps_a s266 1134 i = ps_a s0 1134 i := by rw [show ps_a s266 1134 = ps_a s18 1134 from (K266.2 1134 rfl).1]; exact hO
          have p266_0' : (ps_i s266 1131 29).toInt = (ps_i s18 1131 29).toInt + 1 := p266_0
          have r268 := mf_29 J266
          have w44 : _ := p266_1
          have w45 : _ := p266_2
          have w46 : _ := p266_3
          have w47 : _ := p266_4
          have u30 := xeq (kp_i KC 30 rfl)
          have u31 := xeq (kp_i KC 31 rfl)
          have u32 := xeq (kp_i KC 32 rfl)
          have g5 : (x2.toInt < 6 ∧ ps_a s266 1145 (ps_i s18 1131 29).toInt.toNat = 0) ∨ (6 ≤ x2.toInt ∧ ps_a s266 1145 (ps_i s18 1131 29).toInt.toNat ≠ 0) := by first | exact Or.inl ⟨by omega, ((w45 _).trans (if_pos rfl)).trans (by decide)⟩ | exact Or.inr ⟨by omega, by rw [(w45 _).trans (if_pos rfl)]; decide⟩
          have g7 : ps_a s266 1147 (ps_i s18 1131 29).toInt.toNat = 0 := ((w47 _).trans (if_pos rfl)).trans (by decide)
          have g4 := congrArg Int32.toInt ((w44 (ps_i s18 1131 29).toInt.toNat).trans (if_pos rfl))
          have a269 : ((ps_i s266 1131 29) - 1).toInt = (ps_i s266 1131 29).toInt - (1 : Int) := xIs (show -2147483648 ≤ (ps_i s266 1131 29).toInt - (1 : Int) from by omega) (show (ps_i s266 1131 29).toInt - (1 : Int) < 2147483648 from by omega)
          have e9 : Int32.toNatClampNeg ((ps_i s266 1131 29) - 1) = (ps_i s18 1131 29).toInt.toNat := nx (show ((ps_i s266 1131 29) - 1).toInt = (ps_i s18 1131 29).toInt from by omega)
          refine ps_nd_i (show pm_in ((ps_i s266 1131 29) - 1) 16 = true from xgi (show 0 ≤ ((ps_i s266 1131 29) - 1).toInt from by omega) (show ((ps_i s266 1131 29) - 1).toInt < 16 from by omega)) ?_
          have J270 := mwa_n 1146 (i := (Int32.toNatClampNeg ((ps_i s266 1131 29) - 1))) (v := (x3 &&& 1)) J266 rfl (by decide)
          have K271 := kpa' K267 (r := 1146) (i := (Int32.toNatClampNeg ((ps_i s266 1131 29) - 1))) (v := (x3 &&& 1)) rfl
          have g6 : ps_a (ps_ua s266 1146 (Int32.toNatClampNeg ((ps_i s266 1131 29) - 1)) (x3 &&& 1)) 1146 (ps_i s18 1131 29).toInt.toNat = (x3 &&& 1) := by rw [← e9]; exact ua_eq
          have g6l : ∀ i, i < (ps_i s18 1131 29).toInt.toNat → ps_a (ps_ua s266 1146 (Int32.toNatClampNeg ((ps_i s266 1131 29) - 1)) (x3 &&& 1)) 1146 i = ps_a s18 1146 i := fun i hi => (ua_ne (by omega)).trans ((w46 i).trans (if_neg (by omega)))
          have r272 := mf_8 J266
          have u273 : (ps_i s266 1131 8).toInt = (ps_i s18 1131 8).toInt := xeq (kp_i K266 8 rfl)
          have r274 := mf_4 J266
          have u275 : (ps_i s266 1131 4).toInt = (ps_i s18 1131 4).toInt := xeq (kp_i K266 4 rfl)
          have r276 := mf_5 J266
          have u277 : (ps_i s266 1131 5).toInt = (ps_i s18 1131 5).toInt := xeq (kp_i K266 5 rfl)
          have r278 := mf_5 J18
          have u279 : (ps_i s18 1131 5).toInt = (ps_i s12 1131 5).toInt := xeq (kp_i K18 5 rfl)
          have r280 := mf_5 J12
          have u281 : (ps_i s12 1131 5).toInt = (ps_i s 1131 5).toInt := xeq (kp_i K12 5 rfl)
          have u282 : (ps_i s266 1131 30).toInt = (ps_i s18 1131 30).toInt := xeq (kp_i K266 30 rfl)
          have u283 : (ps_i s18 1131 30).toInt = (ps_i s12 1131 30).toInt := xeq (kp_i K18 30 rfl)
          have u284 : (ps_i s12 1131 30).toInt = (ps_i s 1131 30).toInt := xeq (kp_i K12 30 rfl)
          have r285 := mf_31 J266
          have u286 : (ps_i s266 1131 31).toInt = (ps_i s18 1131 31).toInt := xeq (kp_i K266 31 rfl)
          have r287 := mf_31 J18
          have u288 : (ps_i s18 1131 31).toInt = (ps_i s12 1131 31).toInt := xeq (kp_i K18 31 rfl)
          have r289 := mf_31 J12
          have u290 : (ps_i s12 1131 31).toInt = ((ps_i s 1131 31) + x5).toInt := xeq (kp_i K12 31 rfl)
          exact k _ J270 K271 (show (ps_i s266 1131 8).toInt ≤ (ps_i s266 1131 4).toInt from by omega) (show 1 ≤ (ps_i s266 1131 5).toInt ∨ ((ps_i s266 1131 29).toInt ≤ 13 ∧ 0 ≤ (ps_i s266 1131 30).toInt ∧ (ps_i s266 1131 30).toInt ≤ 5 ∧ (ps_i s266 1131 31).toInt ≤ 40 ∧ (ps_i s0 1131 31).toInt < (ps_i s266 1131 31).toInt) from by omega) (show (ps_i s0 1131 31).toInt ≤ (ps_i s266 1131 31).toInt from by omega) ((by first | (exfalso; omega) | exact Or.inr ⟨_, hR2, (by
      have n1 : (ps_i s266 1131 29).toInt = (ps_i s18 1131 29).toInt + 1 := by omega
      rcases i11 with z | z
      · refine RQ_c hH (by omega) (by omega) (kS_push (g := ps_a (ps_ua s266 1146 (Int32.toNatClampNeg ((ps_i s266 1131 29) - 1)) (x3 &&& 1)) 1145 (ps_i s18 1131 29).toInt.toNat) ?_) ?_ g4 (g6.trans (by rw [show x3 = 0 from x0 z.1]; decide)) (show (ps_i s266 1131 30).toInt = (ps_i s18 1131 30).toInt + (if x2.toInt.toNat = 4 ∨ x2.toInt.toNat = 5 then 1 else 0) from by rw [if_neg (by omega)]; omega) ⟨fun _ => by omega, fun _ => g7⟩ (fun i hi => ⟨(w44 i).trans (if_neg (by omega)), (w45 i).trans (if_neg (by omega)), g6l i hi, (w47 i).trans (if_neg (by omega))⟩) n1 (show (ps_i s266 1131 31).toInt = ((ps_i s18 1131 31).toInt - x5.toInt) + 1 from by omega) (show (ps_i (ps_ua s266 1146 (Int32.toNatClampNeg ((ps_i s266 1131 29) - 1)) (x3 &&& 1)) 1131 32).toInt = (ps_i s18 1131 32).toInt from u32) (fun _ => by omega)
        · rcases hwv with q | q | q | q
          · omega
          · exact Or.inl ⟨by omega, q.2.2⟩
          · rcases g5 with g | g
            · exact Or.inr (Or.inl ⟨by omega, by omega, q.2.2.2, g.2⟩)
            · exact Or.inr (Or.inr (Or.inl ⟨by omega, q.2.2.2, g.2⟩))
          · rcases g5 with g | g
            · omega
            · exact Or.inr (Or.inr (Or.inr ⟨by omega, by omega, q.2.2.1, g.2⟩))
        · omega
      · exact RQ_not hH (by omega) (by omega) (by omega) (by rcases hwv with q | q | q | q; exact g4.trans q.2; omega; omega; omega) (by rcases g5 with g | g; exact g.2; omega) (by rw [g6, show x3 = 1 from xO1 z.1]; decide) (show (ps_i s266 1131 30).toInt = (ps_i s18 1131 30).toInt from by omega) g7 (fun i hi => ⟨(w44 i).trans (if_neg (by omega)), (w45 i).trans (if_neg (by omega)), g6l i hi, (w47 i).trans (if_neg (by omega))⟩) n1 (show (ps_i s266 1131 31).toInt = ((ps_i s18 1131 31).toInt - x5.toInt) + 2 from by omega) (show (ps_i (ps_ua s266 1146 (Int32.toNatClampNeg ((ps_i s266 1131 29) - 1)) (x3 &&& 1)) 1131 32).toInt = (ps_i s18 1131 32).toInt from u32))⟩)) (hO)
    · have f291 : x4.toInt ≠ (0 : Int) := xne h23
      refine ms_208 J18  (fun v292 b292 => ?_)
      refine And.intro (fun h293 => ?_) (fun h293 => ?_)
      · have f294 : v292.toInt ≠ (0 : Int) := xne h293
        have r295 := mf_29 J18
        have u296 : (ps_i s18 1131 29).toInt = (ps_i s12 1131 29).toInt := xeq (kp_i K18 29 rfl)
        have r297 := mf_29 J12
        have u298 : (ps_i s12 1131 29).toInt = (ps_i s 1131 29).toInt := xeq (kp_i K12 29 rfl)
        have u299 : (ps_i s18 1131 30).toInt = (ps_i s12 1131 30).toInt := xeq (kp_i K18 30 rfl)
        have u300 : (ps_i s12 1131 30).toInt = (ps_i s 1131 30).toInt := xeq (kp_i K12 30 rfl)
        have r301 := mf_31 J18
        have u302 : (ps_i s18 1131 31).toInt = (ps_i s12 1131 31).toInt := xeq (kp_i K18 31 rfl)
        have r303 := mf_31 J12
        have u304 : (ps_i s12 1131 31).toInt = ((ps_i s 1131 31) + x5).toInt := xeq (kp_i K12 31 rfl)
        exact ms_214_133 (x1 := x1) (σ := σ) (l := l) (b := b) k  x2.toInt.toNat _ J18 K19 hS2 (hR2) (RH_cnt hH (by omega)) ((by omega)) hO (show (ps_i s18 1131 8).toInt ≤ (ps_i s18 1131 4).toInt from by omega) (show (ps_i s18 1131 29).toInt ≤ 12 from by omega) (show 0 ≤ (ps_i s18 1131 30).toInt from by omega) (show (ps_i s18 1131 30).toInt ≤ 4 from by omega) (show (ps_i s18 1131 31).toInt ≤ 40 from by omega) (show (ps_i s0 1131 31).toInt < (ps_i s18 1131 31).toInt from by omega)
      · have f305 : v292.toInt = (0 : Int) := xeq h293
        refine ms_196 J18  (fun s306 J306 K306 p306_0 => ?_)
        have K307 := kpt K19 K306 rfl rfl
        have KC := K306
        have hS2 : Sg (ps_a s306 1135) (ps_a s306 1136) (ps_a s306 1138) (ps_a s306 1139) (ps_i s306 1131 22).toInt σ := by rw [show ps_a s306 1135 = ps_a s18 1135 from (K306.2 1135 rfl).1, show ps_a s306 1136 = ps_a s18 1136 from (K306.2 1136 rfl).1, show ps_a s306 1138 = ps_a s18 1138 from (K306.2 1138 rfl).1, show ps_a s306 1139 = ps_a s18 1139 from (K306.2 1139 rfl).1, show ps_i s306 1131 22 = ps_i s18 1131 22 from kp_i K306 22 rfl]; exact hS2
        have hH : RH σ (ps_a s306 1144) (ps_a s306 1145) (ps_a s306 1146) (ps_a s306 1147) (ps_i s306 1131 29).toInt (ps_i s306 1131 30).toInt ((ps_i s306 1131 31).toInt - x5.toInt) (ps_i s306 1131 32).toInt (l) b true := by rw [show ps_a s306 1144 = ps_a s18 1144 from (K306.2 1144 rfl).1, show ps_a s306 1145 = ps_a s18 1145 from (K306.2 1145 rfl).1, show ps_a s306 1146 = ps_a s18 1146 from (K306.2 1146 rfl).1, show ps_a s306 1147 = ps_a s18 1147 from (K306.2 1147 rfl).1, show ps_i s306 1131 29 = ps_i s18 1131 29 from kp_i K306 29 rfl, show ps_i s306 1131 30 = ps_i s18 1131 30 from kp_i K306 30 rfl, show ps_i s306 1131 31 = ps_i s18 1131 31 from kp_i K306 31 rfl, show ps_i s306 1131 32 = ps_i s18 1131 32 from kp_i K306 32 rfl]; exact hH
        have hR2 : Rw (ps_a s306 1134) x1.toInt (l ++ [x2.toInt.toNat]) := by rw [show ps_a s306 1134 = ps_a s18 1134 from (K306.2 1134 rfl).1]; exact hR2
        have hO : ∀ i : Nat, (i : Int) < x1.toInt ∨ x1.toInt + 41 ≤ (i : Int) → ps_a s306 1134 i = ps_a s0 1134 i := by rw [show ps_a s306 1134 = ps_a s18 1134 from (K306.2 1134 rfl).1]; exact hO
        have p306_0' : 1 ≤ (ps_i s306 1131 5).toInt := p306_0
        have r308 := mf_5 J306
        have r309 := mf_8 J306
        have u310 : (ps_i s306 1131 8).toInt = (ps_i s18 1131 8).toInt := xeq (kp_i K306 8 rfl)
        have r311 := mf_4 J306
        have u312 : (ps_i s306 1131 4).toInt = (ps_i s18 1131 4).toInt := xeq (kp_i K306 4 rfl)
        have r313 := mf_29 J306
        have u314 : (ps_i s306 1131 29).toInt = (ps_i s18 1131 29).toInt := xeq (kp_i K306 29 rfl)
        have r315 := mf_29 J18
        have u316 : (ps_i s18 1131 29).toInt = (ps_i s12 1131 29).toInt := xeq (kp_i K18 29 rfl)
        have r317 := mf_29 J12
        have u318 : (ps_i s12 1131 29).toInt = (ps_i s 1131 29).toInt := xeq (kp_i K12 29 rfl)
        have u319 : (ps_i s306 1131 30).toInt = (ps_i s18 1131 30).toInt := xeq (kp_i K306 30 rfl)
        have u320 : (ps_i s18 1131 30).toInt = (ps_i s12 1131 30).toInt := xeq (kp_i K18 30 rfl)
        have u321 : (ps_i s12 1131 30).toInt = (ps_i s 1131 30).toInt := xeq (kp_i K12 30 rfl)
        have r322 := mf_31 J306
        have u323 : (ps_i s306 1131 31).toInt = (ps_i s18 1131 31).toInt := xeq (kp_i K306 31 rfl)
        have r324 := mf_31 J18
        have u325 : (ps_i s18 1131 31).toInt = (ps_i s12 1131 31).toInt := xeq (kp_i K18 31 rfl)
        have r326 := mf_31 J12
        have u327 : (ps_i s12 1131 31).toInt = ((ps_i s 1131 31) + x5).toInt := xeq (kp_i K12 31 rfl)
        exact ms_214_133 (x1 := x1) (σ := σ) (l := l) (b := b) k  x2.toInt.toNat _ J306 K307 hS2 (hR2) (RH_cnt hH (by omega)) ((by omega)) hO (show (ps_i s306 1131 8).toInt ≤ (ps_i s306 1131 4).toInt from by omega) (show (ps_i s306 1131 29).toInt ≤ 12 from by omega) (show 0 ≤ (ps_i s306 1131 30).toInt from by omega) (show (ps_i s306 1131 30).toInt ≤ 4 from by omega) (show (ps_i s306 1131 31).toInt ≤ 40 from by omega) (show (ps_i s0 1131 31).toInt < (ps_i s306 1131 31).toInt from by omega)
  · have f328 : v6.toInt = (0 : Int) := xeq h7
    have qz328 : 1 ≤ (ps_i s 1131 5).toInt := by omega
    clear p6_0' p6_0
    exact k _ J K (show (ps_i s 1131 8).toInt ≤ (ps_i s 1131 4).toInt from by omega) (show 1 ≤ (ps_i s 1131 5).toInt ∨ ((ps_i s 1131 29).toInt ≤ 13 ∧ 0 ≤ (ps_i s 1131 30).toInt ∧ (ps_i s 1131 30).toInt ≤ 5 ∧ (ps_i s 1131 31).toInt ≤ 40 ∧ (ps_i s0 1131 31).toInt < (ps_i s 1131 31).toInt) from by omega) (show (ps_i s0 1131 31).toInt ≤ (ps_i s 1131 31).toInt from by omega) (Or.inl (show 1 ≤ (ps_i s 1131 5).toInt from by omega)) (hO)

