set_option maxRecDepth 100000
theorem ms_215_49 {x : Nat → Nat → Nat} {t : Int32} {d : Nat} {s0 : ps_S} {σ : mSig} {l : List Nat} {b : Bool} {x1 : Int32} {Q : Option Value → ps_S → Prop} (k : ∀ (s' : ps_S), mJ x t s' → kp [1134, 1143, 1144, 1145, 1146, 1147] [5, 6, 7, 8, 9, 10, 11, 23, 29, 31] s0 s' → ((ps_i s' 1131 8).toInt ≤ (ps_i s' 1131 4).toInt) → (1 ≤ (ps_i s' 1131 5).toInt ∨ ((ps_i s' 1131 29).toInt ≤ 13 ∧ 0 ≤ (ps_i s' 1131 30).toInt ∧ (ps_i s' 1131 30).toInt ≤ 5 ∧ (ps_i s' 1131 31).toInt ≤ 40 ∧ (ps_i s0 1131 31).toInt < (ps_i s' 1131 31).toInt)) → ((ps_i s0 1131 31).toInt ≤ (ps_i s' 1131 31).toInt) → (1 ≤ (ps_i s' 1131 5).toInt ∨ ∃ l2, Rw (ps_a s' 1134) x1.toInt l2 ∧ RQ σ (ps_a s' 1144) (ps_a s' 1145) (ps_a s' 1146) (ps_a s' 1147) (ps_i s' 1131 29).toInt (ps_i s' 1131 30).toInt (ps_i s' 1131 31).toInt (ps_i s' 1131 32).toInt l2 b) → (∀ i : Nat, (i : Int) < x1.toInt ∨ x1.toInt + 41 ≤ (i : Int) → ps_a s' 1134 i = ps_a s0 1134 i) → Q none s') (s : ps_S) (J : mJ x t s) (K : kp [1134, 1143, 1144, 1145, 1146, 1147] [5, 6, 7, 8, 9, 10, 11, 23, 29, 31] s0 s) (hS2 : Sg (ps_a s 1135) (ps_a s 1136) (ps_a s 1138) (ps_a s 1139) (ps_i s 1131 22).toInt σ) (hR : Rw (ps_a s 1134) x1.toInt (l)) (hH0 : RH σ (ps_a s 1144) (ps_a s 1145) (ps_a s 1146) (ps_a s 1147) (ps_i s 1131 29).toInt (ps_i s 1131 30).toInt (ps_i s 1131 31).toInt (ps_i s 1131 32).toInt (l) b false) (hO : ∀ i : Nat, (i : Int) < x1.toInt ∨ x1.toInt + 41 ≤ (i : Int) → ps_a s 1134 i = ps_a s0 1134 i) (i4 : (ps_i s 1131 8).toInt ≤ (ps_i s 1131 4).toInt) (i5 : (ps_i s 1131 29).toInt ≤ 13) (i6 : 0 ≤ (ps_i s 1131 30).toInt) (i7 : (ps_i s 1131 30).toInt ≤ 5) (i8 : (ps_i s 1131 31).toInt ≤ 40) (i9 : (ps_i s 1131 31).toInt = (ps_i s0 1131 31).toInt) (i10 : 1 ≤ (ps_i s 1131 5).toInt ∨ ((ps_i s 1131 31).toInt + 1 ≤ 40 ∧ (ps_i s 1131 29).toInt ≤ 12)) : ps_At (d + 4) 215 49 [(0, .ref 1131), (1, .int x1)] [] s Q := by
  have r1 := mf_8 J
  have r2 := mf_4 J
  have r3 := mf_29 J
  have r4 := mf_31 J
  have r5 := mf_5 J
  refine pg_215_49 (d := d + 3) ?_
  obtain ⟨hb0, hb1, h5, hR6, h6, hF, h8, h9⟩ := id hS2
  have h6x : (ps_a s 1136 (Int32.toNatClampNeg (ps_i s 1131 22))).toInt = (σ.1.2 : Int) := h6
  refine ms_192 J  (fun v6 p6_0 b6 => ?_)
  have p6_0' : (v6.toInt = 0 ∧ 1 ≤ (ps_i s 1131 5).toInt) ∨ (v6.toInt = 1 ∧ (ps_i s 1131 5).toInt = 0) := p6_0
  refine And.intro (fun h7 => ?_) (fun h7 => ?_)
  · have f8 : v6.toInt ≠ (0 : Int) := xne h7
    have qz8 : (ps_i s 1131 5).toInt = 0 := by omega
    clear p6_0' p6_0
    refine ms_207 J  (fun v9 p9_0 p9_1 => ?_)
    have p9_0' : -1 ≤ v9.toInt := p9_0
    have p9_1' : v9.toInt < (ps_a s 1136 (Int32.toNatClampNeg (ps_i s 1131 22))).toInt := p9_1
    have r10 := mf_22 J
    have r11 : 0 ≤ (ps_a s 1136 (Int32.toNatClampNeg (ps_i s 1131 22))).toInt ∧ (ps_a s 1136 (Int32.toNatClampNeg (ps_i s 1131 22))).toInt ≤ 4 := ma_1136 (i := (ps_i s 1131 22)) J (show 0 ≤ (ps_i s 1131 22).toInt from by omega) (show (ps_i s 1131 22).toInt < 2 from by omega)
    refine And.intro (fun h12 => ?_) (fun h12 => ?_)
    · have f13 : (0 : Int) ≤ v9.toInt := xle h12
      refine ms_192 J  (fun v14 p14_0 b14 => ?_)
      have p14_0' : (v14.toInt = 0 ∧ 1 ≤ (ps_i s 1131 5).toInt) ∨ (v14.toInt = 1 ∧ (ps_i s 1131 5).toInt = 0) := p14_0
      refine And.intro (fun h15 => ?_) (fun h15 => ?_)
      · have f16 : v14.toInt ≠ (0 : Int) := xne h15
        have qz16 : (ps_i s 1131 5).toInt = 0 := by omega
        clear p14_0' p14_0
        have a17 : ((ps_i s 1131 31) + 1).toInt = (ps_i s 1131 31).toInt + (1 : Int) := xIa (show -2147483648 ≤ (ps_i s 1131 31).toInt + (1 : Int) from by omega) (show (ps_i s 1131 31).toInt + (1 : Int) < 2147483648 from by omega)
        have J18 := mwi_31 (v := ((ps_i s 1131 31) + 1)) J (show 0 ≤ ((ps_i s 1131 31) + 1).toInt from by omega) (show ((ps_i s 1131 31) + 1).toInt ≤ 42 from by omega)
        have K19 := kpi K (q := 31) (v := ((ps_i s 1131 31) + 1)) rfl
        have hH : RH σ (ps_a (ps_ui s 1131 31 ((ps_i s 1131 31) + 1)) 1144) (ps_a (ps_ui s 1131 31 ((ps_i s 1131 31) + 1)) 1145) (ps_a (ps_ui s 1131 31 ((ps_i s 1131 31) + 1)) 1146) (ps_a (ps_ui s 1131 31 ((ps_i s 1131 31) + 1)) 1147) (ps_i (ps_ui s 1131 31 ((ps_i s 1131 31) + 1)) 1131 29).toInt (ps_i (ps_ui s 1131 31 ((ps_i s 1131 31) + 1)) 1131 30).toInt ((ps_i (ps_ui s 1131 31 ((ps_i s 1131 31) + 1)) 1131 31).toInt - 1) (ps_i (ps_ui s 1131 31 ((ps_i s 1131 31) + 1)) 1131 32).toInt (l) b false := RH_cnt hH0 (show ((ps_i s 1131 31) + 1).toInt - 1 = (ps_i _ 1131 31).toInt from by omega)
        refine And.intro (fun h20 => ?_) (fun h20 => ?_)
        · have f21 : (0 : Int) ≤ v9.toInt := xle h20
          have a22 : ((20 : Int32) + v9).toInt = (20 : Int) + v9.toInt := xIa (show -2147483648 ≤ (20 : Int) + v9.toInt from by omega) (show (20 : Int) + v9.toInt < 2147483648 from by omega)
          obtain ⟨c, hc⟩ : ∃ c : Nat, (((20 : Int32) + v9)).toInt = (c : Int) := ⟨(((20 : Int32) + v9)).toInt.toNat, by omega⟩
          have hcc : (40 ≤ c ∧ c < 72 ∧ v9.toInt < 0 ∧ (60 ≤ c → (ps_i s 1131 32).toInt = 0)) ∨ (20 ≤ c ∧ c < 20 + σ.1.2 ∧ 0 ≤ v9.toInt ∧ c = 20 + v9.toInt.toNat) := by omega
          have hc2 : 60 ≤ c → (ps_i (ps_ui s 1131 31 ((ps_i s 1131 31) + 1)) 1131 32).toInt = 0 := fun z => (show (ps_i s 1131 32).toInt = 0 from by omega)
          refine ms_210 (l := l) (p := c) J18 hR ((by have z := RH_len hH0; omega)) (hc) (fun s23 J23 K23 p23_0 p23_1 => ?_)
          have K24 := kpt K19 K23 rfl rfl
          have KC := K23
          have hS2 : Sg (ps_a s23 1135) (ps_a s23 1136) (ps_a s23 1138) (ps_a s23 1139) (ps_i s23 1131 22).toInt σ := by rw [show ps_a s23 1135 = ps_a (ps_ui s 1131 31 ((ps_i s 1131 31) + 1)) 1135 from (K23.2 1135 rfl).1, show ps_a s23 1136 = ps_a (ps_ui s 1131 31 ((ps_i s 1131 31) + 1)) 1136 from (K23.2 1136 rfl).1, show ps_a s23 1138 = ps_a (ps_ui s 1131 31 ((ps_i s 1131 31) + 1)) 1138 from (K23.2 1138 rfl).1, show ps_a s23 1139 = ps_a (ps_ui s 1131 31 ((ps_i s 1131 31) + 1)) 1139 from (K23.2 1139 rfl).1, show ps_i s23 1131 22 = ps_i (ps_ui s 1131 31 ((ps_i s 1131 31) + 1)) 1131 22 from kp_i K23 22 rfl]; exact hS2
          have hH : RH σ (ps_a s23 1144) (ps_a s23 1145) (ps_a s23 1146) (ps_a s23 1147) (ps_i s23 1131 29).toInt (ps_i s23 1131 30).toInt ((ps_i s23 1131 31).toInt - 1) (ps_i s23 1131 32).toInt (l) b false := by rw [show ps_a s23 1144 = ps_a (ps_ui s 1131 31 ((ps_i s 1131 31) + 1)) 1144 from (K23.2 1144 rfl).1, show ps_a s23 1145 = ps_a (ps_ui s 1131 31 ((ps_i s 1131 31) + 1)) 1145 from (K23.2 1145 rfl).1, show ps_a s23 1146 = ps_a (ps_ui s 1131 31 ((ps_i s 1131 31) + 1)) 1146 from (K23.2 1146 rfl).1, show ps_a s23 1147 = ps_a (ps_ui s 1131 31 ((ps_i s 1131 31) + 1)) 1147 from (K23.2 1147 rfl).1, show ps_i s23 1131 29 = ps_i (ps_ui s 1131 31 ((ps_i s 1131 31) + 1)) 1131 29 from kp_i K23 29 rfl, show ps_i s23 1131 30 = ps_i (ps_ui s 1131 31 ((ps_i s 1131 31) + 1)) 1131 30 from kp_i K23 30 rfl, show ps_i s23 1131 31 = ps_i (ps_ui s 1131 31 ((ps_i s 1131 31) + 1)) 1131 31 from kp_i K23 31 rfl, show ps_i s23 1131 32 = ps_i (ps_ui s 1131 31 ((ps_i s 1131 31) + 1)) 1131 32 from kp_i K23 32 rfl]; exact hH
          have hc2 : 60 ≤ c → (ps_i s23 1131 32).toInt = 0 := by rw [show ps_i s23 1131 32 = ps_i (ps_ui s 1131 31 ((ps_i s 1131 31) + 1)) 1131 32 from kp_i K23 32 rfl]; exact hc2
          have hR2 : Rw (ps_a s23 1134) x1.toInt (l ++ [c]) := p23_0
          have ho : _ := p23_1
          have hO : ∀ i : Nat, (i : Int) < x1.toInt ∨ x1.toInt + 41 ≤ (i : Int) → ps_a s23 1134 i = ps_a s0 1134 i := fun i hi => (ho i hi).trans (hO i hi)
          have r25 := mf_8 J23
          have u26 : (ps_i s23 1131 8).toInt = (ps_i s 1131 8).toInt := xeq (kp_i K23 8 rfl)
          have r27 := mf_4 J23
          have u28 : (ps_i s23 1131 4).toInt = (ps_i s 1131 4).toInt := xeq (kp_i K23 4 rfl)
          refine ms_194 J23 (show (ps_i s23 1131 8).toInt ≤ (ps_i s23 1131 4).toInt from by omega) (fun s29 J29 K29 p29_0 => ?_)
          have K30 := kpt K24 K29 rfl rfl
          have KC := K29
          have hS2 : Sg (ps_a s29 1135) (ps_a s29 1136) (ps_a s29 1138) (ps_a s29 1139) (ps_i s29 1131 22).toInt σ := by rw [show ps_a s29 1135 = ps_a s23 1135 from (K29.2 1135 rfl).1, show ps_a s29 1136 = ps_a s23 1136 from (K29.2 1136 rfl).1, show ps_a s29 1138 = ps_a s23 1138 from (K29.2 1138 rfl).1, show ps_a s29 1139 = ps_a s23 1139 from (K29.2 1139 rfl).1, show ps_i s29 1131 22 = ps_i s23 1131 22 from kp_i K29 22 rfl]; exact hS2
          have hH : RH σ (ps_a s29 1144) (ps_a s29 1145) (ps_a s29 1146) (ps_a s29 1147) (ps_i s29 1131 29).toInt (ps_i s29 1131 30).toInt ((ps_i s29 1131 31).toInt - 1) (ps_i s29 1131 32).toInt (l) b false := by rw [show ps_a s29 1144 = ps_a s23 1144 from (K29.2 1144 rfl).1, show ps_a s29 1145 = ps_a s23 1145 from (K29.2 1145 rfl).1, show ps_a s29 1146 = ps_a s23 1146 from (K29.2 1146 rfl).1, show ps_a s29 1147 = ps_a s23 1147 from (K29.2 1147 rfl).1, show ps_i s29 1131 29 = ps_i s23 1131 29 from kp_i K29 29 rfl, show ps_i s29 1131 30 = ps_i s23 1131 30 from kp_i K29 30 rfl, show ps_i s29 1131 31 = ps_i s23 1131 31 from kp_i K29 31 rfl, show ps_i s29 1131 32 = ps_i s23 1131 32 from kp_i K29 32 rfl]; exact hH
          have hc2 : 60 ≤ c → (ps_i s29 1131 32).toInt = 0 := by rw [show ps_i s29 1131 32 = ps_i s23 1131 32 from kp_i K29 32 rfl]; exact hc2
          have hR2 : Rw (ps_a s29 1134) x1.toInt (l ++ [c]) := by rw [show ps_a s29 1134 = ps_a s23 1134 from (K29.2 1134 rfl).1]; exact hR2
          have hO : ∀ i : Nat, (i : Int) < x1.toInt ∨ x1.toInt + 41 ≤ (i : Int) → ps_a s29 1134 i = ps_a s0 1134 i := by rw [show ps_a s29 1134 = ps_a s23 1134 from (K29.2 1134 rfl).1]; exact hO
          have p29_0' : (ps_i s29 1131 8).toInt ≤ (ps_i s29 1131 4).toInt := p29_0
          have r31 := mf_8 J29
          have r32 := mf_4 J29
          have u33 : (ps_i s29 1131 4).toInt = (ps_i s23 1131 4).toInt := xeq (kp_i K29 4 rfl)
          refine And.intro (fun h34 => ?_) (fun h34 => ?_)
          · have f35 : (0 : Int) ≤ v9.toInt := xle h34
            have r36 := mf_22 J29
            have u37 : (ps_i s29 1131 22).toInt = (ps_i s23 1131 22).toInt := xeq (kp_i K29 22 rfl)
            have r38 := mf_22 J23
            have u39 : (ps_i s23 1131 22).toInt = (ps_i s 1131 22).toInt := xeq (kp_i K23 22 rfl)
            have a40 : ((4 : Int32) * (ps_i s29 1131 22)).toInt = (4 : Int) * (ps_i s29 1131 22).toInt := xIm (show -2147483648 ≤ (4 : Int) * (ps_i s29 1131 22).toInt from by omega) (show (4 : Int) * (ps_i s29 1131 22).toInt < 2147483648 from by omega)
            have a41 : (((4 : Int32) * (ps_i s29 1131 22)) + v9).toInt = ((4 : Int32) * (ps_i s29 1131 22)).toInt + v9.toInt := xIa (show -2147483648 ≤ ((4 : Int32) * (ps_i s29 1131 22)).toInt + v9.toInt from by omega) (show ((4 : Int32) * (ps_i s29 1131 22)).toInt + v9.toInt < 2147483648 from by omega)
            refine ps_nd_i (show pm_in (((4 : Int32) * (ps_i s29 1131 22)) + v9) 8 = true from xgi (show 0 ≤ (((4 : Int32) * (ps_i s29 1131 22)) + v9).toInt from by omega) (show (((4 : Int32) * (ps_i s29 1131 22)) + v9).toInt < 8 from by omega)) ?_
            have r42 : 0 ≤ (ps_a s29 1139 (Int32.toNatClampNeg (((4 : Int32) * (ps_i s29 1131 22)) + v9))).toInt ∧ (ps_a s29 1139 (Int32.toNatClampNeg (((4 : Int32) * (ps_i s29 1131 22)) + v9))).toInt ≤ 9999 := ma_1139 (i := (((4 : Int32) * (ps_i s29 1131 22)) + v9)) J29 (show 0 ≤ (((4 : Int32) * (ps_i s29 1131 22)) + v9).toInt from by omega) (show (((4 : Int32) * (ps_i s29 1131 22)) + v9).toInt < 8 from by omega)
            have u43 : (ps_a s29 1139 (Int32.toNatClampNeg (((4 : Int32) * (ps_i s29 1131 22)) + v9))).toInt = (ps_a s23 1139 (Int32.toNatClampNeg (((4 : Int32) * (ps_i s29 1131 22)) + v9))).toInt := xeq (kp_a K29 1139 rfl _)
            have r44 : 0 ≤ (ps_a s23 1139 (Int32.toNatClampNeg (((4 : Int32) * (ps_i s29 1131 22)) + v9))).toInt ∧ (ps_a s23 1139 (Int32.toNatClampNeg (((4 : Int32) * (ps_i s29 1131 22)) + v9))).toInt ≤ 9999 := ma_1139 (i := (((4 : Int32) * (ps_i s29 1131 22)) + v9)) J23 (show 0 ≤ (((4 : Int32) * (ps_i s29 1131 22)) + v9).toInt from by omega) (show (((4 : Int32) * (ps_i s29 1131 22)) + v9).toInt < 8 from by omega)
            have u45 : (ps_a s23 1139 (Int32.toNatClampNeg (((4 : Int32) * (ps_i s29 1131 22)) + v9))).toInt = (ps_a s 1139 (Int32.toNatClampNeg (((4 : Int32) * (ps_i s29 1131 22)) + v9))).toInt := xeq (kp_a K23 1139 rfl _)
            have r46 : 0 ≤ (ps_a s 1139 (Int32.toNatClampNeg (((4 : Int32) * (ps_i s29 1131 22)) + v9))).toInt ∧ (ps_a s 1139 (Int32.toNatClampNeg (((4 : Int32) * (ps_i s29 1131 22)) + v9))).toInt ≤ 9999 := ma_1139 (i := (((4 : Int32) * (ps_i s29 1131 22)) + v9)) J (show 0 ≤ (((4 : Int32) * (ps_i s29 1131 22)) + v9).toInt from by omega) (show (((4 : Int32) * (ps_i s29 1131 22)) + v9).toInt < 8 from by omega)
            have hwv : (40 ≤ c ∧ c < 72 ∧ ((ps_a s29 1139 (Int32.toNatClampNeg (((4 : Int32) * (ps_i s29 1131 22)) + v9)))).toInt = 0) ∨ (20 ≤ c ∧ c < 20 + σ.1.2 ∧ ((ps_a s29 1139 (Int32.toNatClampNeg (((4 : Int32) * (ps_i s29 1131 22)) + v9)))).toInt = σ.2.2 (c - 20) ∧ σ.2.2 (c - 20) ≤ 2) := by first | exact Or.inl ⟨by omega, by omega, by decide⟩ | exact Or.inr ⟨by omega, by omega, Sg_f hS2 (by omega) (by omega)⟩
            have r47 := mf_29 J29
            have u48 : (ps_i s29 1131 29).toInt = (ps_i s23 1131 29).toInt := xeq (kp_i K29 29 rfl)
            have r49 := mf_29 J23
            have u50 : (ps_i s23 1131 29).toInt = (ps_i s 1131 29).toInt := xeq (kp_i K23 29 rfl)
            refine ms_211 J29 (show (ps_i s29 1131 29).toInt ≤ 14 from by omega) (fun s51 J51 K51 p51_0 p51_1 p51_2 p51_3 p51_4 => ?_)
            have K52 := kpt K30 K51 rfl rfl
            have KC := K51
            have hS2 : Sg (ps_a s51 1135) (ps_a s51 1136) (ps_a s51 1138) (ps_a s51 1139) (ps_i s51 1131 22).toInt σ := by rw [show ps_a s51 1135 = ps_a s29 1135 from (K51.2 1135 rfl).1, show ps_a s51 1136 = ps_a s29 1136 from (K51.2 1136 rfl).1, show ps_a s51 1138 = ps_a s29 1138 from (K51.2 1138 rfl).1, show ps_a s51 1139 = ps_a s29 1139 from (K51.2 1139 rfl).1, show ps_i s51 1131 22 = ps_i s29 1131 22 from kp_i K51 22 rfl]; exact hS2
            have hc2 : 60 ≤ c → (ps_i s51 1131 32).toInt = 0 := by rw [show ps_i s51 1131 32 = ps_i s29 1131 32 from kp_i K51 32 rfl]; exact hc2
            have hR2 : Rw (ps_a s51 1134) x1.toInt (l ++ [c]) := by rw [show ps_a s51 1134 = ps_a s29 1134 from (K51.2 1134 rfl).1]; exact hR2
            have hO : ∀ i : Nat, (i : Int) < x1.toInt ∨ x1.toInt + 41 ≤ (i : Int) → ps_a s51 1134 i = ps_a s0 1134 i := by rw [show ps_a s51 1134 = ps_a s29 1134 from (K51.2 1134 rfl).1]; exact hO
            have p51_0' : (ps_i s51 1131 29).toInt = (ps_i s29 1131 29).toInt + 1 := p51_0
            have r53 := mf_29 J51
            have w44 : _ := p51_1
            have w45 : _ := p51_2
            have w46 : _ := p51_3
            have w47 : _ := p51_4
            have u30 := xeq (kp_i KC 30 rfl)
            have u31 := xeq (kp_i KC 31 rfl)
            have u32 := xeq (kp_i KC 32 rfl)
            have g5 : ps_a s51 1145 (ps_i s29 1131 29).toInt.toNat ≠ 0 := by rw [(w45 _).trans (if_pos rfl)]; decide
            have g7 : ps_a s51 1147 (ps_i s29 1131 29).toInt.toNat = 0 := ((w47 _).trans (if_pos rfl)).trans (by decide)
            have g6 : ps_a s51 1146 (ps_i s29 1131 29).toInt.toNat = 0 := ((w46 _).trans (if_pos rfl)).trans (by decide)
            have g4 := congrArg Int32.toInt ((w44 (ps_i s29 1131 29).toInt.toNat).trans (if_pos rfl))
            have r54 := mf_8 J51
            have u55 : (ps_i s51 1131 8).toInt = (ps_i s29 1131 8).toInt := xeq (kp_i K51 8 rfl)
            have r56 := mf_4 J51
            have u57 : (ps_i s51 1131 4).toInt = (ps_i s29 1131 4).toInt := xeq (kp_i K51 4 rfl)
            have r58 := mf_5 J51
            have u59 : (ps_i s51 1131 5).toInt = (ps_i s29 1131 5).toInt := xeq (kp_i K51 5 rfl)
            have r60 := mf_5 J29
            have u61 : (ps_i s29 1131 5).toInt = (ps_i s23 1131 5).toInt := xeq (kp_i K29 5 rfl)
            have r62 := mf_5 J23
            have u63 : (ps_i s23 1131 5).toInt = (ps_i s 1131 5).toInt := xeq (kp_i K23 5 rfl)
            have u64 : (ps_i s51 1131 30).toInt = (ps_i s29 1131 30).toInt := xeq (kp_i K51 30 rfl)
            have u65 : (ps_i s29 1131 30).toInt = (ps_i s23 1131 30).toInt := xeq (kp_i K29 30 rfl)
            have u66 : (ps_i s23 1131 30).toInt = (ps_i s 1131 30).toInt := xeq (kp_i K23 30 rfl)
            have r67 := mf_31 J51
            have u68 : (ps_i s51 1131 31).toInt = (ps_i s29 1131 31).toInt := xeq (kp_i K51 31 rfl)
            have r69 := mf_31 J29
            have u70 : (ps_i s29 1131 31).toInt = (ps_i s23 1131 31).toInt := xeq (kp_i K29 31 rfl)
            have r71 := mf_31 J23
            have u72 : (ps_i s23 1131 31).toInt = ((ps_i s 1131 31) + 1).toInt := xeq (kp_i K23 31 rfl)
            exact k _ J51 K52 (show (ps_i s51 1131 8).toInt ≤ (ps_i s51 1131 4).toInt from by omega) (show 1 ≤ (ps_i s51 1131 5).toInt ∨ ((ps_i s51 1131 29).toInt ≤ 13 ∧ 0 ≤ (ps_i s51 1131 30).toInt ∧ (ps_i s51 1131 30).toInt ≤ 5 ∧ (ps_i s51 1131 31).toInt ≤ 40 ∧ (ps_i s0 1131 31).toInt < (ps_i s51 1131 31).toInt) from by omega) (show (ps_i s0 1131 31).toInt ≤ (ps_i s51 1131 31).toInt from by omega) ((by first | (exfalso; omega) | exact Or.inr ⟨_, hR2, RQ_c hH (by omega) (by omega) (kS_pusht hF g5 (hwv.imp id (fun q => ⟨q.1, q.2.1, q.2.2.1⟩))) (by omega) g4 g6 (show (ps_i s51 1131 30).toInt = (ps_i s29 1131 30).toInt + (if c = 4 ∨ c = 5 then 1 else 0) from by rw [if_neg (by omega)]; omega) ⟨fun _ => by omega, fun _ => g7⟩ (fun i hi => ⟨(w44 i).trans (if_neg (by omega)), (w45 i).trans (if_neg (by omega)), (w46 i).trans (if_neg (by omega)), (w47 i).trans (if_neg (by omega))⟩) (show (ps_i s51 1131 29).toInt = (ps_i s29 1131 29).toInt + 1 from by omega) (show (ps_i s51 1131 31).toInt = ((ps_i s29 1131 31).toInt - 1) + 1 from by omega) (show (ps_i s51 1131 32).toInt = (ps_i s29 1131 32).toInt from u32) (fun z => by omega)⟩)) (hO)
          · have f73 : v9.toInt < (0 : Int) := xlt h34
            have hwv : (40 ≤ c ∧ c < 72 ∧ ((0 : Int32)).toInt = 0) ∨ (20 ≤ c ∧ c < 20 + σ.1.2 ∧ ((0 : Int32)).toInt = σ.2.2 (c - 20) ∧ σ.2.2 (c - 20) ≤ 2) := by first | exact Or.inl ⟨by omega, by omega, by decide⟩ | exact Or.inr ⟨by omega, by omega, Sg_f hS2 (by omega) (by omega)⟩
            have r74 := mf_29 J29
            have u75 : (ps_i s29 1131 29).toInt = (ps_i s23 1131 29).toInt := xeq (kp_i K29 29 rfl)
            have r76 := mf_29 J23
            have u77 : (ps_i s23 1131 29).toInt = (ps_i s 1131 29).toInt := xeq (kp_i K23 29 rfl)
            refine ms_211 J29 (show (ps_i s29 1131 29).toInt ≤ 14 from by omega) (fun s78 J78 K78 p78_0 p78_1 p78_2 p78_3 p78_4 => ?_)
            have K79 := kpt K30 K78 rfl rfl
            have KC := K78
            have hS2 : Sg (ps_a s78 1135) (ps_a s78 1136) (ps_a s78 1138) (ps_a s78 1139) (ps_i s78 1131 22).toInt σ := by rw [show ps_a s78 1135 = ps_a s29 1135 from (K78.2 1135 rfl).1, show ps_a s78 1136 = ps_a s29 1136 from (K78.2 1136 rfl).1, show ps_a s78 1138 = ps_a s29 1138 from (K78.2 1138 rfl).1, show ps_a s78 1139 = ps_a s29 1139 from (K78.2 1139 rfl).1, show ps_i s78 1131 22 = ps_i s29 1131 22 from kp_i K78 22 rfl]; exact hS2
            have hc2 : 60 ≤ c → (ps_i s78 1131 32).toInt = 0 := by rw [show ps_i s78 1131 32 = ps_i s29 1131 32 from kp_i K78 32 rfl]; exact hc2
            have hR2 : Rw (ps_a s78 1134) x1.toInt (l ++ [c]) := by rw [show ps_a s78 1134 = ps_a s29 1134 from (K78.2 1134 rfl).1]; exact hR2
            have hO : ∀ i : Nat, (i : Int) < x1.toInt ∨ x1.toInt + 41 ≤ (i : Int) → ps_a s78 1134 i = ps_a s0 1134 i := by rw [show ps_a s78 1134 = ps_a s29 1134 from (K78.2 1134 rfl).1]; exact hO
            have p78_0' : (ps_i s78 1131 29).toInt = (ps_i s29 1131 29).toInt + 1 := p78_0
            have r80 := mf_29 J78
            have w44 : _ := p78_1
            have w45 : _ := p78_2
            have w46 : _ := p78_3
            have w47 : _ := p78_4
            have u30 := xeq (kp_i KC 30 rfl)
            have u31 := xeq (kp_i KC 31 rfl)
            have u32 := xeq (kp_i KC 32 rfl)
            have g5 : ps_a s78 1145 (ps_i s29 1131 29).toInt.toNat ≠ 0 := by rw [(w45 _).trans (if_pos rfl)]; decide
            have g7 : ps_a s78 1147 (ps_i s29 1131 29).toInt.toNat = 0 := ((w47 _).trans (if_pos rfl)).trans (by decide)
            have g6 : ps_a s78 1146 (ps_i s29 1131 29).toInt.toNat = 0 := ((w46 _).trans (if_pos rfl)).trans (by decide)
            have g4 := congrArg Int32.toInt ((w44 (ps_i s29 1131 29).toInt.toNat).trans (if_pos rfl))
            have r81 := mf_8 J78
            have u82 : (ps_i s78 1131 8).toInt = (ps_i s29 1131 8).toInt := xeq (kp_i K78 8 rfl)
            have r83 := mf_4 J78
            have u84 : (ps_i s78 1131 4).toInt = (ps_i s29 1131 4).toInt := xeq (kp_i K78 4 rfl)
            have r85 := mf_5 J78
            have u86 : (ps_i s78 1131 5).toInt = (ps_i s29 1131 5).toInt := xeq (kp_i K78 5 rfl)
            have r87 := mf_5 J29
            have u88 : (ps_i s29 1131 5).toInt = (ps_i s23 1131 5).toInt := xeq (kp_i K29 5 rfl)
            have r89 := mf_5 J23
            have u90 : (ps_i s23 1131 5).toInt = (ps_i s 1131 5).toInt := xeq (kp_i K23 5 rfl)
            have u91 : (ps_i s78 1131 30).toInt = (ps_i s29 1131 30).toInt := xeq (kp_i K78 30 rfl)
            have u92 : (ps_i s29 1131 30).toInt = (ps_i s23 1131 30).toInt := xeq (kp_i K29 30 rfl)
            have u93 : (ps_i s23 1131 30).toInt = (ps_i s 1131 30).toInt := xeq (kp_i K23 30 rfl)
            have r94 := mf_31 J78
            have u95 : (ps_i s78 1131 31).toInt = (ps_i s29 1131 31).toInt := xeq (kp_i K78 31 rfl)
            have r96 := mf_31 J29
            have u97 : (ps_i s29 1131 31).toInt = (ps_i s23 1131 31).toInt := xeq (kp_i K29 31 rfl)
            have r98 := mf_31 J23
            have u99 : (ps_i s23 1131 31).toInt = ((ps_i s 1131 31) + 1).toInt := xeq (kp_i K23 31 rfl)
            exact k _ J78 K79 (show (ps_i s78 1131 8).toInt ≤ (ps_i s78 1131 4).toInt from by omega) (show 1 ≤ (ps_i s78 1131 5).toInt ∨ ((ps_i s78 1131 29).toInt ≤ 13 ∧ 0 ≤ (ps_i s78 1131 30).toInt ∧ (ps_i s78 1131 30).toInt ≤ 5 ∧ (ps_i s78 1131 31).toInt ≤ 40 ∧ (ps_i s0 1131 31).toInt < (ps_i s78 1131 31).toInt) from by omega) (show (ps_i s0 1131 31).toInt ≤ (ps_i s78 1131 31).toInt from by omega) ((by first | (exfalso; omega) | exact Or.inr ⟨_, hR2, RQ_c hH (by omega) (by omega) (kS_pusht hF g5 (hwv.imp id (fun q => ⟨q.1, q.2.1, q.2.2.1⟩))) (by omega) g4 g6 (show (ps_i s78 1131 30).toInt = (ps_i s29 1131 30).toInt + (if c = 4 ∨ c = 5 then 1 else 0) from by rw [if_neg (by omega)]; omega) ⟨fun _ => by omega, fun _ => g7⟩ (fun i hi => ⟨(w44 i).trans (if_neg (by omega)), (w45 i).trans (if_neg (by omega)), (w46 i).trans (if_neg (by omega)), (w47 i).trans (if_neg (by omega))⟩) (show (ps_i s78 1131 29).toInt = (ps_i s29 1131 29).toInt + 1 from by omega) (show (ps_i s78 1131 31).toInt = ((ps_i s29 1131 31).toInt - 1) + 1 from by omega) (show (ps_i s78 1131 32).toInt = (ps_i s29 1131 32).toInt from u32) (fun z => by omega)⟩)) (hO)
        · have f100 : v9.toInt < (0 : Int) := xlt h20
          obtain ⟨c, hc⟩ : ∃ c : Nat, ((0 : Int32)).toInt = (c : Int) := ⟨((0 : Int32)).toInt.toNat, by omega⟩
          have hcc : (40 ≤ c ∧ c < 72 ∧ v9.toInt < 0 ∧ (60 ≤ c → (ps_i s 1131 32).toInt = 0)) ∨ (20 ≤ c ∧ c < 20 + σ.1.2 ∧ 0 ≤ v9.toInt ∧ c = 20 + v9.toInt.toNat) := by omega
          have hc2 : 60 ≤ c → (ps_i (ps_ui s 1131 31 ((ps_i s 1131 31) + 1)) 1131 32).toInt = 0 := fun z => (show (ps_i s 1131 32).toInt = 0 from by omega)
          refine ms_210 (l := l) (p := c) J18 hR ((by have z := RH_len hH0; omega)) (hc) (fun s101 J101 K101 p101_0 p101_1 => ?_)
          have K102 := kpt K19 K101 rfl rfl
          have KC := K101
          have hS2 : Sg (ps_a s101 1135) (ps_a s101 1136) (ps_a s101 1138) (ps_a s101 1139) (ps_i s101 1131 22).toInt σ := by rw [show ps_a s101 1135 = ps_a (ps_ui s 1131 31 ((ps_i s 1131 31) + 1)) 1135 from (K101.2 1135 rfl).1, show ps_a s101 1136 = ps_a (ps_ui s 1131 31 ((ps_i s 1131 31) + 1)) 1136 from (K101.2 1136 rfl).1, show ps_a s101 1138 = ps_a (ps_ui s 1131 31 ((ps_i s 1131 31) + 1)) 1138 from (K101.2 1138 rfl).1, show ps_a s101 1139 = ps_a (ps_ui s 1131 31 ((ps_i s 1131 31) + 1)) 1139 from (K101.2 1139 rfl).1, show ps_i s101 1131 22 = ps_i (ps_ui s 1131 31 ((ps_i s 1131 31) + 1)) 1131 22 from kp_i K101 22 rfl]; exact hS2
          have hH : RH σ (ps_a s101 1144) (ps_a s101 1145) (ps_a s101 1146) (ps_a s101 1147) (ps_i s101 1131 29).toInt (ps_i s101 1131 30).toInt ((ps_i s101 1131 31).toInt - 1) (ps_i s101 1131 32).toInt (l) b false := by rw [show ps_a s101 1144 = ps_a (ps_ui s 1131 31 ((ps_i s 1131 31) + 1)) 1144 from (K101.2 1144 rfl).1, show ps_a s101 1145 = ps_a (ps_ui s 1131 31 ((ps_i s 1131 31) + 1)) 1145 from (K101.2 1145 rfl).1, show ps_a s101 1146 = ps_a (ps_ui s 1131 31 ((ps_i s 1131 31) + 1)) 1146 from (K101.2 1146 rfl).1, show ps_a s101 1147 = ps_a (ps_ui s 1131 31 ((ps_i s 1131 31) + 1)) 1147 from (K101.2 1147 rfl).1, show ps_i s101 1131 29 = ps_i (ps_ui s 1131 31 ((ps_i s 1131 31) + 1)) 1131 29 from kp_i K101 29 rfl, show ps_i s101 1131 30 = ps_i (ps_ui s 1131 31 ((ps_i s 1131 31) + 1)) 1131 30 from kp_i K101 30 rfl, show ps_i s101 1131 31 = ps_i (ps_ui s 1131 31 ((ps_i s 1131 31) + 1)) 1131 31 from kp_i K101 31 rfl, show ps_i s101 1131 32 = ps_i (ps_ui s 1131 31 ((ps_i s 1131 31) + 1)) 1131 32 from kp_i K101 32 rfl]; exact hH
          have hc2 : 60 ≤ c → (ps_i s101 1131 32).toInt = 0 := by rw [show ps_i s101 1131 32 = ps_i (ps_ui s 1131 31 ((ps_i s 1131 31) + 1)) 1131 32 from kp_i K101 32 rfl]; exact hc2
          have hR2 : Rw (ps_a s101 1134) x1.toInt (l ++ [c]) := p101_0
          have ho : _ := p101_1
          have hO : ∀ i : Nat, (i : Int) < x1.toInt ∨ x1.toInt + 41 ≤ (i : Int) → ps_a s101 1134 i = ps_a s0 1134 i := fun i hi => (ho i hi).trans (hO i hi)
          have r103 := mf_8 J101
          have u104 : (ps_i s101 1131 8).toInt = (ps_i s 1131 8).toInt := xeq (kp_i K101 8 rfl)
          have r105 := mf_4 J101
          have u106 : (ps_i s101 1131 4).toInt = (ps_i s 1131 4).toInt := xeq (kp_i K101 4 rfl)
          refine ms_194 J101 (show (ps_i s101 1131 8).toInt ≤ (ps_i s101 1131 4).toInt from by omega) (fun s107 J107 K107 p107_0 => ?_)
          have K108 := kpt K102 K107 rfl rfl
          have KC := K107
          have hS2 : Sg (ps_a s107 1135) (ps_a s107 1136) (ps_a s107 1138) (ps_a s107 1139) (ps_i s107 1131 22).toInt σ := by rw [show ps_a s107 1135 = ps_a s101 1135 from (K107.2 1135 rfl).1, show ps_a s107 1136 = ps_a s101 1136 from (K107.2 1136 rfl).1, show ps_a s107 1138 = ps_a s101 1138 from (K107.2 1138 rfl).1, show ps_a s107 1139 = ps_a s101 1139 from (K107.2 1139 rfl).1, show ps_i s107 1131 22 = ps_i s101 1131 22 from kp_i K107 22 rfl]; exact hS2
          have hH : RH σ (ps_a s107 1144) (ps_a s107 1145) (ps_a s107 1146) (ps_a s107 1147) (ps_i s107 1131 29).toInt (ps_i s107 1131 30).toInt ((ps_i s107 1131 31).toInt - 1) (ps_i s107 1131 32).toInt (l) b false := by rw [show ps_a s107 1144 = ps_a s101 1144 from (K107.2 1144 rfl).1, show ps_a s107 1145 = ps_a s101 1145 from (K107.2 1145 rfl).1, show ps_a s107 1146 = ps_a s101 1146 from (K107.2 1146 rfl).1, show ps_a s107 1147 = ps_a s101 1147 from (K107.2 1147 rfl).1, show ps_i s107 1131 29 = ps_i s101 1131 29 from kp_i K107 29 rfl, show ps_i s107 1131 30 = ps_i s101 1131 30 from kp_i K107 30 rfl, show ps_i s107 1131 31 = ps_i s101 1131 31 from kp_i K107 31 rfl, show ps_i s107 1131 32 = ps_i s101 1131 32 from kp_i K107 32 rfl]; exact hH
          have hc2 : 60 ≤ c → (ps_i s107 1131 32).toInt = 0 := by rw [show ps_i s107 1131 32 = ps_i s101 1131 32 from kp_i K107 32 rfl]; exact hc2
          have hR2 : Rw (ps_a s107 1134) x1.toInt (l ++ [c]) := by rw [show ps_a s107 1134 = ps_a s101 1134 from (K107.2 1134 rfl).1]; exact hR2
          have hO : ∀ i : Nat, (i : Int) < x1.toInt ∨ x1.toInt + 41 ≤ (i : Int) → ps_a s107 1134 i = ps_a s0 1134 i := by rw [show ps_a s107 1134 = ps_a s101 1134 from (K107.2 1134 rfl).1]; exact hO
          have p107_0' : (ps_i s107 1131 8).toInt ≤ (ps_i s107 1131 4).toInt := p107_0
          have r109 := mf_8 J107
          have r110 := mf_4 J107
          have u111 : (ps_i s107 1131 4).toInt = (ps_i s101 1131 4).toInt := xeq (kp_i K107 4 rfl)
          refine And.intro (fun h112 => ?_) (fun h112 => ?_)
          · have f113 : (0 : Int) ≤ v9.toInt := xle h112
            have r114 := mf_22 J107
            have u115 : (ps_i s107 1131 22).toInt = (ps_i s101 1131 22).toInt := xeq (kp_i K107 22 rfl)
            have r116 := mf_22 J101
            have u117 : (ps_i s101 1131 22).toInt = (ps_i s 1131 22).toInt := xeq (kp_i K101 22 rfl)
            have a118 : ((4 : Int32) * (ps_i s107 1131 22)).toInt = (4 : Int) * (ps_i s107 1131 22).toInt := xIm (show -2147483648 ≤ (4 : Int) * (ps_i s107 1131 22).toInt from by omega) (show (4 : Int) * (ps_i s107 1131 22).toInt < 2147483648 from by omega)
            have a119 : (((4 : Int32) * (ps_i s107 1131 22)) + v9).toInt = ((4 : Int32) * (ps_i s107 1131 22)).toInt + v9.toInt := xIa (show -2147483648 ≤ ((4 : Int32) * (ps_i s107 1131 22)).toInt + v9.toInt from by omega) (show ((4 : Int32) * (ps_i s107 1131 22)).toInt + v9.toInt < 2147483648 from by omega)
            refine ps_nd_i (show pm_in (((4 : Int32) * (ps_i s107 1131 22)) + v9) 8 = true from xgi (show 0 ≤ (((4 : Int32) * (ps_i s107 1131 22)) + v9).toInt from by omega) (show (((4 : Int32) * (ps_i s107 1131 22)) + v9).toInt < 8 from by omega)) ?_
            have r120 : 0 ≤ (ps_a s107 1139 (Int32.toNatClampNeg (((4 : Int32) * (ps_i s107 1131 22)) + v9))).toInt ∧ (ps_a s107 1139 (Int32.toNatClampNeg (((4 : Int32) * (ps_i s107 1131 22)) + v9))).toInt ≤ 9999 := ma_1139 (i := (((4 : Int32) * (ps_i s107 1131 22)) + v9)) J107 (show 0 ≤ (((4 : Int32) * (ps_i s107 1131 22)) + v9).toInt from by omega) (show (((4 : Int32) * (ps_i s107 1131 22)) + v9).toInt < 8 from by omega)
            have u121 : (ps_a s107 1139 (Int32.toNatClampNeg (((4 : Int32) * (ps_i s107 1131 22)) + v9))).toInt = (ps_a s101 1139 (Int32.toNatClampNeg (((4 : Int32) * (ps_i s107 1131 22)) + v9))).toInt := xeq (kp_a K107 1139 rfl _)
            have r122 : 0 ≤ (ps_a s101 1139 (Int32.toNatClampNeg (((4 : Int32) * (ps_i s107 1131 22)) + v9))).toInt ∧ (ps_a s101 1139 (Int32.toNatClampNeg (((4 : Int32) * (ps_i s107 1131 22)) + v9))).toInt ≤ 9999 := ma_1139 (i := (((4 : Int32) * (ps_i s107 1131 22)) + v9)) J101 (show 0 ≤ (((4 : Int32) * (ps_i s107 1131 22)) + v9).toInt from by omega) (show (((4 : Int32) * (ps_i s107 1131 22)) + v9).toInt < 8 from by omega)
            have u123 : (ps_a s101 1139 (Int32.toNatClampNeg (((4 : Int32) * (ps_i s107 1131 22)) + v9))).toInt = (ps_a s 1139 (Int32.toNatClampNeg (((4 : Int32) * (ps_i s107 1131 22)) + v9))).toInt := xeq (kp_a K101 1139 rfl _)
            have r124 : 0 ≤ (ps_a s 1139 (Int32.toNatClampNeg (((4 : Int32) * (ps_i s107 1131 22)) + v9))).toInt ∧ (ps_a s 1139 (Int32.toNatClampNeg (((4 : Int32) * (ps_i s107 1131 22)) + v9))).toInt ≤ 9999 := ma_1139 (i := (((4 : Int32) * (ps_i s107 1131 22)) + v9)) J (show 0 ≤ (((4 : Int32) * (ps_i s107 1131 22)) + v9).toInt from by omega) (show (((4 : Int32) * (ps_i s107 1131 22)) + v9).toInt < 8 from by omega)
            have hwv : (40 ≤ c ∧ c < 72 ∧ ((ps_a s107 1139 (Int32.toNatClampNeg (((4 : Int32) * (ps_i s107 1131 22)) + v9)))).toInt = 0) ∨ (20 ≤ c ∧ c < 20 + σ.1.2 ∧ ((ps_a s107 1139 (Int32.toNatClampNeg (((4 : Int32) * (ps_i s107 1131 22)) + v9)))).toInt = σ.2.2 (c - 20) ∧ σ.2.2 (c - 20) ≤ 2) := by first | exact Or.inl ⟨by omega, by omega, by decide⟩ | exact Or.inr ⟨by omega, by omega, Sg_f hS2 (by omega) (by omega)⟩
            have r125 := mf_29 J107
            have u126 : (ps_i s107 1131 29).toInt = (ps_i s101 1131 29).toInt := xeq (kp_i K107 29 rfl)
            have r127 := mf_29 J101
            have u128 : (ps_i s101 1131 29).toInt = (ps_i s 1131 29).toInt := xeq (kp_i K101 29 rfl)
            refine ms_211 J107 (show (ps_i s107 1131 29).toInt ≤ 14 from by omega) (fun s129 J129 K129 p129_0 p129_1 p129_2 p129_3 p129_4 => ?_)
            have K130 := kpt K108 K129 rfl rfl
            have KC := K129
            have hS2 : Sg (ps_a s129 1135) (ps_a s129 1136) (ps_a s129 1138) (ps_a s129 1139) (ps_i s129 1131 22).toInt σ := by rw [show ps_a s129 1135 = ps_a s107 1135 from (K129.2 1135 rfl).1, show ps_a s129 1136 = ps_a s107 1136 from (K129.2 1136 rfl).1, show ps_a s129 1138 = ps_a s107 1138 from (K129.2 1138 rfl).1, show ps_a s129 1139 = ps_a s107 1139 from (K129.2 1139 rfl).1, show ps_i s129 1131 22 = ps_i s107 1131 22 from kp_i K129 22 rfl]; exact hS2
            have hc2 : 60 ≤ c → (ps_i s129 1131 32).toInt = 0 := by rw [show ps_i s129 1131 32 = ps_i s107 1131 32 from kp_i K129 32 rfl]; exact hc2
            have hR2 : Rw (ps_a s129 1134) x1.toInt (l ++ [c]) := by rw [show ps_a s129 1134 = ps_a s107 1134 from (K129.2 1134 rfl).1]; exact hR2
            have hO : ∀ i : Nat, (i : Int) < x1.toInt ∨ x1.toInt + 41 ≤ (i : Int) → ps_a s129 1134 i = ps_a s0 1134 i := by rw [show ps_a s129 1134 = ps_a s107 1134 from (K129.2 1134 rfl).1]; exact hO
            have p129_0' : (ps_i s129 1131 29).toInt = (ps_i s107 1131 29).toInt + 1 := p129_0
            have r131 := mf_29 J129
            have w44 : _ := p129_1
            have w45 : _ := p129_2
            have w46 : _ := p129_3
            have w47 : _ := p129_4
            have u30 := xeq (kp_i KC 30 rfl)
            have u31 := xeq (kp_i KC 31 rfl)
            have u32 := xeq (kp_i KC 32 rfl)
            have g5 : ps_a s129 1145 (ps_i s107 1131 29).toInt.toNat ≠ 0 := by rw [(w45 _).trans (if_pos rfl)]; decide
            have g7 : ps_a s129 1147 (ps_i s107 1131 29).toInt.toNat = 0 := ((w47 _).trans (if_pos rfl)).trans (by decide)
            have g6 : ps_a s129 1146 (ps_i s107 1131 29).toInt.toNat = 0 := ((w46 _).trans (if_pos rfl)).trans (by decide)
            have g4 := congrArg Int32.toInt ((w44 (ps_i s107 1131 29).toInt.toNat).trans (if_pos rfl))
            have r132 := mf_8 J129
            have u133 : (ps_i s129 1131 8).toInt = (ps_i s107 1131 8).toInt := xeq (kp_i K129 8 rfl)
            have r134 := mf_4 J129
            have u135 : (ps_i s129 1131 4).toInt = (ps_i s107 1131 4).toInt := xeq (kp_i K129 4 rfl)
            have r136 := mf_5 J129
            have u137 : (ps_i s129 1131 5).toInt = (ps_i s107 1131 5).toInt := xeq (kp_i K129 5 rfl)
            have r138 := mf_5 J107
            have u139 : (ps_i s107 1131 5).toInt = (ps_i s101 1131 5).toInt := xeq (kp_i K107 5 rfl)
            have r140 := mf_5 J101
            have u141 : (ps_i s101 1131 5).toInt = (ps_i s 1131 5).toInt := xeq (kp_i K101 5 rfl)
            have u142 : (ps_i s129 1131 30).toInt = (ps_i s107 1131 30).toInt := xeq (kp_i K129 30 rfl)
            have u143 : (ps_i s107 1131 30).toInt = (ps_i s101 1131 30).toInt := xeq (kp_i K107 30 rfl)
            have u144 : (ps_i s101 1131 30).toInt = (ps_i s 1131 30).toInt := xeq (kp_i K101 30 rfl)
            have r145 := mf_31 J129
            have u146 : (ps_i s129 1131 31).toInt = (ps_i s107 1131 31).toInt := xeq (kp_i K129 31 rfl)
            have r147 := mf_31 J107
            have u148 : (ps_i s107 1131 31).toInt = (ps_i s101 1131 31).toInt := xeq (kp_i K107 31 rfl)
            have r149 := mf_31 J101
            have u150 : (ps_i s101 1131 31).toInt = ((ps_i s 1131 31) + 1).toInt := xeq (kp_i K101 31 rfl)
            exact k _ J129 K130 (show (ps_i s129 1131 8).toInt ≤ (ps_i s129 1131 4).toInt from by omega) (show 1 ≤ (ps_i s129 1131 5).toInt ∨ ((ps_i s129 1131 29).toInt ≤ 13 ∧ 0 ≤ (ps_i s129 1131 30).toInt ∧ (ps_i s129 1131 30).toInt ≤ 5 ∧ (ps_i s129 1131 31).toInt ≤ 40 ∧ (ps_i s0 1131 31).toInt < (ps_i s129 1131 31).toInt) from by omega) (show (ps_i s0 1131 31).toInt ≤ (ps_i s129 1131 31).toInt from by omega) ((by first | (exfalso; omega) | exact Or.inr ⟨_, hR2, RQ_c hH (by omega) (by omega) (kS_pusht hF g5 (hwv.imp id (fun q => ⟨q.1, q.2.1, q.2.2.1⟩))) (by omega) g4 g6 (show (ps_i s129 1131 30).toInt = (ps_i s107 1131 30).toInt + (if c = 4 ∨ c = 5 then 1 else 0) from by rw [if_neg (by omega)]; omega) ⟨fun _ => by omega, fun _ => g7⟩ (fun i hi => ⟨(w44 i).trans (if_neg (by omega)), (w45 i).trans (if_neg (by omega)), (w46 i).trans (if_neg (by omega)), (w47 i).trans (if_neg (by omega))⟩) (show (ps_i s129 1131 29).toInt = (ps_i s107 1131 29).toInt + 1 from by omega) (show (ps_i s129 1131 31).toInt = ((ps_i s107 1131 31).toInt - 1) + 1 from by omega) (show (ps_i s129 1131 32).toInt = (ps_i s107 1131 32).toInt from u32) (fun z => by omega)⟩)) (hO)
          · have f151 : v9.toInt < (0 : Int) := xlt h112
            have hwv : (40 ≤ c ∧ c < 72 ∧ ((0 : Int32)).toInt = 0) ∨ (20 ≤ c ∧ c < 20 + σ.1.2 ∧ ((0 : Int32)).toInt = σ.2.2 (c - 20) ∧ σ.2.2 (c - 20) ≤ 2) := by first | exact Or.inl ⟨by omega, by omega, by decide⟩ | exact Or.inr ⟨by omega, by omega, Sg_f hS2 (by omega) (by omega)⟩
            have r152 := mf_29 J107
            have u153 : (ps_i s107 1131 29).toInt = (ps_i s101 1131 29).toInt := xeq (kp_i K107 29 rfl)
            have r154 := mf_29 J101
            have u155 : (ps_i s101 1131 29).toInt = (ps_i s 1131 29).toInt := xeq (kp_i K101 29 rfl)
            refine ms_211 J107 (show (ps_i s107 1131 29).toInt ≤ 14 from by omega) (fun s156 J156 K156 p156_0 p156_1 p156_2 p156_3 p156_4 => ?_)
            have K157 := kpt K108 K156 rfl rfl
            have KC := K156
            have hS2 : Sg (ps_a s156 1135) (ps_a s156 1136) (ps_a s156 1138) (ps_a s156 1139) (ps_i s156 1131 22).toInt σ := by rw [show ps_a s156 1135 = ps_a s107 1135 from (K156.2 1135 rfl).1, show ps_a s156 1136 = ps_a s107 1136 from (K156.2 1136 rfl).1, show ps_a s156 1138 = ps_a s107 1138 from (K156.2 1138 rfl).1, show ps_a s156 1139 = ps_a s107 1139 from (K156.2 1139 rfl).1, show ps_i s156 1131 22 = ps_i s107 1131 22 from kp_i K156 22 rfl]; exact hS2
            have hc2 : 60 ≤ c → (ps_i s156 1131 32).toInt = 0 := by rw [show ps_i s156 1131 32 = ps_i s107 1131 32 from kp_i K156 32 rfl]; exact hc2
            have hR2 : Rw (ps_a s156 1134) x1.toInt (l ++ [c]) := by rw [show ps_a s156 1134 = ps_a s107 1134 from (K156.2 1134 rfl).1]; exact hR2
            have hO : ∀ i : Nat, (i : Int) < x1.toInt ∨ x1.toInt + 41 ≤ (i : Int) → ps_a s156 1134 i = ps_a s0 1134 i := by rw [show ps_a s156 1134 = ps_a s107 1134 from (K156.2 1134 rfl).1]; exact hO
            have p156_0' : (ps_i s156 1131 29).toInt = (ps_i s107 1131 29).toInt + 1 := p156_0
            have r158 := mf_29 J156
            have w44 : _ := p156_1
            have w45 : _ := p156_2
            have w46 : _ := p156_3
            have w47 : _ := p156_4
            have u30 := xeq (kp_i KC 30 rfl)
            have u31 := xeq (kp_i KC 31 rfl)
            have u32 := xeq (kp_i KC 32 rfl)
            have g5 : ps_a s156 1145 (ps_i s107 1131 29).toInt.toNat ≠ 0 := by rw [(w45 _).trans (if_pos rfl)]; decide
            have g7 : ps_a s156 1147 (ps_i s107 1131 29).toInt.toNat = 0 := ((w47 _).trans (if_pos rfl)).trans (by decide)
            have g6 : ps_a s156 1146 (ps_i s107 1131 29).toInt.toNat = 0 := ((w46 _).trans (if_pos rfl)).trans (by decide)
            have g4 := congrArg Int32.toInt ((w44 (ps_i s107 1131 29).toInt.toNat).trans (if_pos rfl))
            have r159 := mf_8 J156
            have u160 : (ps_i s156 1131 8).toInt = (ps_i s107 1131 8).toInt := xeq (kp_i K156 8 rfl)
            have r161 := mf_4 J156
            have u162 : (ps_i s156 1131 4).toInt = (ps_i s107 1131 4).toInt := xeq (kp_i K156 4 rfl)
            have r163 := mf_5 J156
            have u164 : (ps_i s156 1131 5).toInt = (ps_i s107 1131 5).toInt := xeq (kp_i K156 5 rfl)
            have r165 := mf_5 J107
            have u166 : (ps_i s107 1131 5).toInt = (ps_i s101 1131 5).toInt := xeq (kp_i K107 5 rfl)
            have r167 := mf_5 J101
            have u168 : (ps_i s101 1131 5).toInt = (ps_i s 1131 5).toInt := xeq (kp_i K101 5 rfl)
            have u169 : (ps_i s156 1131 30).toInt = (ps_i s107 1131 30).toInt := xeq (kp_i K156 30 rfl)
            have u170 : (ps_i s107 1131 30).toInt = (ps_i s101 1131 30).toInt := xeq (kp_i K107 30 rfl)
            have u171 : (ps_i s101 1131 30).toInt = (ps_i s 1131 30).toInt := xeq (kp_i K101 30 rfl)
            have r172 := mf_31 J156
            have u173 : (ps_i s156 1131 31).toInt = (ps_i s107 1131 31).toInt := xeq (kp_i K156 31 rfl)
            have r174 := mf_31 J107
            have u175 : (ps_i s107 1131 31).toInt = (ps_i s101 1131 31).toInt := xeq (kp_i K107 31 rfl)
            have r176 := mf_31 J101
            have u177 : (ps_i s101 1131 31).toInt = ((ps_i s 1131 31) + 1).toInt := xeq (kp_i K101 31 rfl)
            exact k _ J156 K157 (show (ps_i s156 1131 8).toInt ≤ (ps_i s156 1131 4).toInt from by omega) (show 1 ≤ (ps_i s156 1131 5).toInt ∨ ((ps_i s156 1131 29).toInt ≤ 13 ∧ 0 ≤ (ps_i s156 1131 30).toInt ∧ (ps_i s156 1131 30).toInt ≤ 5 ∧ (ps_i s156 1131 31).toInt ≤ 40 ∧ (ps_i s0 1131 31).toInt < (ps_i s156 1131 31).toInt) from by omega) (show (ps_i s0 1131 31).toInt ≤ (ps_i s156 1131 31).toInt from by omega) ((by first | (exfalso; omega) | exact Or.inr ⟨_, hR2, RQ_c hH (by omega) (by omega) (kS_pusht hF g5 (hwv.imp id (fun q => ⟨q.1, q.2.1, q.2.2.1⟩))) (by omega) g4 g6 (show (ps_i s156 1131 30).toInt = (ps_i s107 1131 30).toInt + (if c = 4 ∨ c = 5 then 1 else 0) from by rw [if_neg (by omega)]; omega) ⟨fun _ => by omega, fun _ => g7⟩ (fun i hi => ⟨(w44 i).trans (if_neg (by omega)), (w45 i).trans (if_neg (by omega)), (w46 i).trans (if_neg (by omega)), (w47 i).trans (if_neg (by omega))⟩) (show (ps_i s156 1131 29).toInt = (ps_i s107 1131 29).toInt + 1 from by omega) (show (ps_i s156 1131 31).toInt = ((ps_i s107 1131 31).toInt - 1) + 1 from by omega) (show (ps_i s156 1131 32).toInt = (ps_i s107 1131 32).toInt from u32) (fun z => by omega)⟩)) (hO)
      · have f178 : v14.toInt = (0 : Int) := xeq h15
        have qz178 : 1 ≤ (ps_i s 1131 5).toInt := by omega
        clear p14_0' p14_0
        exact k _ J K (show (ps_i s 1131 8).toInt ≤ (ps_i s 1131 4).toInt from by omega) (show 1 ≤ (ps_i s 1131 5).toInt ∨ ((ps_i s 1131 29).toInt ≤ 13 ∧ 0 ≤ (ps_i s 1131 30).toInt ∧ (ps_i s 1131 30).toInt ≤ 5 ∧ (ps_i s 1131 31).toInt ≤ 40 ∧ (ps_i s0 1131 31).toInt < (ps_i s 1131 31).toInt) from by omega) (show (ps_i s0 1131 31).toInt ≤ (ps_i s 1131 31).toInt from by omega) (Or.inl (show 1 ≤ (ps_i s 1131 5).toInt from by omega)) (hO)
    · have f179 : v9.toInt < (0 : Int) := xlt h12
      refine ms_216 J  (fun v180 s180 J180 K180 p180_0 p180_1 => ?_)
      have K181 := kpt K K180 rfl rfl
      have KC := K180
      have hS2 : Sg (ps_a s180 1135) (ps_a s180 1136) (ps_a s180 1138) (ps_a s180 1139) (ps_i s180 1131 22).toInt σ := by rw [show ps_a s180 1135 = ps_a s 1135 from (K180.2 1135 rfl).1, show ps_a s180 1136 = ps_a s 1136 from (K180.2 1136 rfl).1, show ps_a s180 1138 = ps_a s 1138 from (K180.2 1138 rfl).1, show ps_a s180 1139 = ps_a s 1139 from (K180.2 1139 rfl).1, show ps_i s180 1131 22 = ps_i s 1131 22 from kp_i K180 22 rfl]; exact hS2
      have hR : Rw (ps_a s180 1134) x1.toInt (l) := by rw [show ps_a s180 1134 = ps_a s 1134 from (K180.2 1134 rfl).1]; exact hR
      have hH0 : RH σ (ps_a s180 1144) (ps_a s180 1145) (ps_a s180 1146) (ps_a s180 1147) (ps_i s180 1131 29).toInt (ps_i s180 1131 30).toInt (ps_i s180 1131 31).toInt (ps_i s180 1131 32).toInt (l) b false := by rw [show ps_a s180 1144 = ps_a s 1144 from (K180.2 1144 rfl).1, show ps_a s180 1145 = ps_a s 1145 from (K180.2 1145 rfl).1, show ps_a s180 1146 = ps_a s 1146 from (K180.2 1146 rfl).1, show ps_a s180 1147 = ps_a s 1147 from (K180.2 1147 rfl).1, show ps_i s180 1131 29 = ps_i s 1131 29 from kp_i K180 29 rfl, show ps_i s180 1131 30 = ps_i s 1131 30 from kp_i K180 30 rfl, show ps_i s180 1131 31 = ps_i s 1131 31 from kp_i K180 31 rfl, show ps_i s180 1131 32 = ps_i s 1131 32 from kp_i K180 32 rfl]; exact hH0
      have hO : ∀ i : Nat, (i : Int) < x1.toInt ∨ x1.toInt + 41 ≤ (i : Int) → ps_a s180 1134 i = ps_a s0 1134 i := by rw [show ps_a s180 1134 = ps_a s 1134 from (K180.2 1134 rfl).1]; exact hO
      have p180_0' : (v180.toInt = 0 ∧ 1 ≤ (ps_i s180 1131 5).toInt) ∨ (40 ≤ v180.toInt ∧ v180.toInt < 60) ∨ (60 ≤ v180.toInt ∧ v180.toInt ≤ 71 ∧ (ps_i s180 1131 32).toInt = 0) := p180_0
      have r182 := mf_5 J180
      have u183 : (ps_i s180 1131 32).toInt = (ps_i s 1131 32).toInt := xeq (kp_i K180 32 rfl)
      have p180_1' : 1 ≤ (ps_i s 1131 5).toInt → 1 ≤ (ps_i s180 1131 5).toInt := p180_1
      refine ms_192 J180  (fun v184 p184_0 b184 => ?_)
      have p184_0' : (v184.toInt = 0 ∧ 1 ≤ (ps_i s180 1131 5).toInt) ∨ (v184.toInt = 1 ∧ (ps_i s180 1131 5).toInt = 0) := p184_0
      refine And.intro (fun h185 => ?_) (fun h185 => ?_)
      · have f186 : v184.toInt ≠ (0 : Int) := xne h185
        have qz186 : (ps_i s180 1131 5).toInt = 0 := by omega
        clear p184_0' p184_0
        have r187 := mf_31 J180
        have u188 : (ps_i s180 1131 31).toInt = (ps_i s 1131 31).toInt := xeq (kp_i K180 31 rfl)
        have a189 : ((ps_i s180 1131 31) + 1).toInt = (ps_i s180 1131 31).toInt + (1 : Int) := xIa (show -2147483648 ≤ (ps_i s180 1131 31).toInt + (1 : Int) from by omega) (show (ps_i s180 1131 31).toInt + (1 : Int) < 2147483648 from by omega)
        have J190 := mwi_31 (v := ((ps_i s180 1131 31) + 1)) J180 (show 0 ≤ ((ps_i s180 1131 31) + 1).toInt from by omega) (show ((ps_i s180 1131 31) + 1).toInt ≤ 42 from by omega)
        have K191 := kpi K181 (q := 31) (v := ((ps_i s180 1131 31) + 1)) rfl
        have hH : RH σ (ps_a (ps_ui s180 1131 31 ((ps_i s180 1131 31) + 1)) 1144) (ps_a (ps_ui s180 1131 31 ((ps_i s180 1131 31) + 1)) 1145) (ps_a (ps_ui s180 1131 31 ((ps_i s180 1131 31) + 1)) 1146) (ps_a (ps_ui s180 1131 31 ((ps_i s180 1131 31) + 1)) 1147) (ps_i (ps_ui s180 1131 31 ((ps_i s180 1131 31) + 1)) 1131 29).toInt (ps_i (ps_ui s180 1131 31 ((ps_i s180 1131 31) + 1)) 1131 30).toInt ((ps_i (ps_ui s180 1131 31 ((ps_i s180 1131 31) + 1)) 1131 31).toInt - 1) (ps_i (ps_ui s180 1131 31 ((ps_i s180 1131 31) + 1)) 1131 32).toInt (l) b false := RH_cnt hH0 (show ((ps_i s180 1131 31) + 1).toInt - 1 = (ps_i _ 1131 31).toInt from by omega)
        refine And.intro (fun h192 => ?_) (fun h192 => ?_)
        · have f193 : (0 : Int) ≤ v9.toInt := xle h192
          have a194 : ((20 : Int32) + v9).toInt = (20 : Int) + v9.toInt := xIa (show -2147483648 ≤ (20 : Int) + v9.toInt from by omega) (show (20 : Int) + v9.toInt < 2147483648 from by omega)
          obtain ⟨c, hc⟩ : ∃ c : Nat, (((20 : Int32) + v9)).toInt = (c : Int) := ⟨(((20 : Int32) + v9)).toInt.toNat, by omega⟩
          have hcc : (40 ≤ c ∧ c < 72 ∧ v9.toInt < 0 ∧ (60 ≤ c → (ps_i s180 1131 32).toInt = 0)) ∨ (20 ≤ c ∧ c < 20 + σ.1.2 ∧ 0 ≤ v9.toInt ∧ c = 20 + v9.toInt.toNat) := by omega
          have hc2 : 60 ≤ c → (ps_i (ps_ui s180 1131 31 ((ps_i s180 1131 31) + 1)) 1131 32).toInt = 0 := fun z => (show (ps_i s180 1131 32).toInt = 0 from by omega)
          refine ms_210 (l := l) (p := c) J190 hR ((by have z := RH_len hH0; omega)) (hc) (fun s195 J195 K195 p195_0 p195_1 => ?_)
          have K196 := kpt K191 K195 rfl rfl
          have KC := K195
          have hS2 : Sg (ps_a s195 1135) (ps_a s195 1136) (ps_a s195 1138) (ps_a s195 1139) (ps_i s195 1131 22).toInt σ := by rw [show ps_a s195 1135 = ps_a (ps_ui s180 1131 31 ((ps_i s180 1131 31) + 1)) 1135 from (K195.2 1135 rfl).1, show ps_a s195 1136 = ps_a (ps_ui s180 1131 31 ((ps_i s180 1131 31) + 1)) 1136 from (K195.2 1136 rfl).1, show ps_a s195 1138 = ps_a (ps_ui s180 1131 31 ((ps_i s180 1131 31) + 1)) 1138 from (K195.2 1138 rfl).1, show ps_a s195 1139 = ps_a (ps_ui s180 1131 31 ((ps_i s180 1131 31) + 1)) 1139 from (K195.2 1139 rfl).1, show ps_i s195 1131 22 = ps_i (ps_ui s180 1131 31 ((ps_i s180 1131 31) + 1)) 1131 22 from kp_i K195 22 rfl]; exact hS2
          have hH : RH σ (ps_a s195 1144) (ps_a s195 1145) (ps_a s195 1146) (ps_a s195 1147) (ps_i s195 1131 29).toInt (ps_i s195 1131 30).toInt ((ps_i s195 1131 31).toInt - 1) (ps_i s195 1131 32).toInt (l) b false := by rw [show ps_a s195 1144 = ps_a (ps_ui s180 1131 31 ((ps_i s180 1131 31) + 1)) 1144 from (K195.2 1144 rfl).1, show ps_a s195 1145 = ps_a (ps_ui s180 1131 31 ((ps_i s180 1131 31) + 1)) 1145 from (K195.2 1145 rfl).1, show ps_a s195 1146 = ps_a (ps_ui s180 1131 31 ((ps_i s180 1131 31) + 1)) 1146 from (K195.2 1146 rfl).1, show ps_a s195 1147 = ps_a (ps_ui s180 1131 31 ((ps_i s180 1131 31) + 1)) 1147 from (K195.2 1147 rfl).1, show ps_i s195 1131 29 = ps_i (ps_ui s180 1131 31 ((ps_i s180 1131 31) + 1)) 1131 29 from kp_i K195 29 rfl, show ps_i s195 1131 30 = ps_i (ps_ui s180 1131 31 ((ps_i s180 1131 31) + 1)) 1131 30 from kp_i K195 30 rfl, show ps_i s195 1131 31 = ps_i (ps_ui s180 1131 31 ((ps_i s180 1131 31) + 1)) 1131 31 from kp_i K195 31 rfl, show ps_i s195 1131 32 = ps_i (ps_ui s180 1131 31 ((ps_i s180 1131 31) + 1)) 1131 32 from kp_i K195 32 rfl]; exact hH
          have hc2 : 60 ≤ c → (ps_i s195 1131 32).toInt = 0 := by rw [show ps_i s195 1131 32 = ps_i (ps_ui s180 1131 31 ((ps_i s180 1131 31) + 1)) 1131 32 from kp_i K195 32 rfl]; exact hc2
          have hR2 : Rw (ps_a s195 1134) x1.toInt (l ++ [c]) := p195_0
          have ho : _ := p195_1
          have hO : ∀ i : Nat, (i : Int) < x1.toInt ∨ x1.toInt + 41 ≤ (i : Int) → ps_a s195 1134 i = ps_a s0 1134 i := fun i hi => (ho i hi).trans (hO i hi)
          have r197 := mf_8 J195
          have u198 : (ps_i s195 1131 8).toInt = (ps_i s180 1131 8).toInt := xeq (kp_i K195 8 rfl)
          have r199 := mf_8 J180
          have u200 : (ps_i s180 1131 8).toInt = (ps_i s 1131 8).toInt := xeq (kp_i K180 8 rfl)
          have r201 := mf_4 J195
          have u202 : (ps_i s195 1131 4).toInt = (ps_i s180 1131 4).toInt := xeq (kp_i K195 4 rfl)
          have r203 := mf_4 J180
          have u204 : (ps_i s180 1131 4).toInt = (ps_i s 1131 4).toInt := xeq (kp_i K180 4 rfl)
          refine ms_194 J195 (show (ps_i s195 1131 8).toInt ≤ (ps_i s195 1131 4).toInt from by omega) (fun s205 J205 K205 p205_0 => ?_)
          have K206 := kpt K196 K205 rfl rfl
          have KC := K205
          have hS2 : Sg (ps_a s205 1135) (ps_a s205 1136) (ps_a s205 1138) (ps_a s205 1139) (ps_i s205 1131 22).toInt σ := by rw [show ps_a s205 1135 = ps_a s195 1135 from (K205.2 1135 rfl).1, show ps_a s205 1136 = ps_a s195 1136 from (K205.2 1136 rfl).1, show ps_a s205 1138 = ps_a s195 1138 from (K205.2 1138 rfl).1, show ps_a s205 1139 = ps_a s195 1139 from (K205.2 1139 rfl).1, show ps_i s205 1131 22 = ps_i s195 1131 22 from kp_i K205 22 rfl]; exact hS2
          have hH : RH σ (ps_a s205 1144) (ps_a s205 1145) (ps_a s205 1146) (ps_a s205 1147) (ps_i s205 1131 29).toInt (ps_i s205 1131 30).toInt ((ps_i s205 1131 31).toInt - 1) (ps_i s205 1131 32).toInt (l) b false := by rw [show ps_a s205 1144 = ps_a s195 1144 from (K205.2 1144 rfl).1, show ps_a s205 1145 = ps_a s195 1145 from (K205.2 1145 rfl).1, show ps_a s205 1146 = ps_a s195 1146 from (K205.2 1146 rfl).1, show ps_a s205 1147 = ps_a s195 1147 from (K205.2 1147 rfl).1, show ps_i s205 1131 29 = ps_i s195 1131 29 from kp_i K205 29 rfl, show ps_i s205 1131 30 = ps_i s195 1131 30 from kp_i K205 30 rfl, show ps_i s205 1131 31 = ps_i s195 1131 31 from kp_i K205 31 rfl, show ps_i s205 1131 32 = ps_i s195 1131 32 from kp_i K205 32 rfl]; exact hH
          have hc2 : 60 ≤ c → (ps_i s205 1131 32).toInt = 0 := by rw [show ps_i s205 1131 32 = ps_i s195 1131 32 from kp_i K205 32 rfl]; exact hc2
          have hR2 : Rw (ps_a s205 1134) x1.toInt (l ++ [c]) := by rw [show ps_a s205 1134 = ps_a s195 1134 from (K205.2 1134 rfl).1]; exact hR2
          have hO : ∀ i : Nat, (i : Int) < x1.toInt ∨ x1.toInt + 41 ≤ (i : Int) → ps_a s205 1134 i = ps_a s0 1134 i := by rw [show ps_a s205 1134 = ps_a s195 1134 from (K205.2 1134 rfl).1]; exact hO
          have p205_0' : (ps_i s205 1131 8).toInt ≤ (ps_i s205 1131 4).toInt := p205_0
          have r207 := mf_8 J205
          have r208 := mf_4 J205
          have u209 : (ps_i s205 1131 4).toInt = (ps_i s195 1131 4).toInt := xeq (kp_i K205 4 rfl)
          refine And.intro (fun h210 => ?_) (fun h210 => ?_)
          · have f211 : (0 : Int) ≤ v9.toInt := xle h210
            have r212 := mf_22 J205
            have u213 : (ps_i s205 1131 22).toInt = (ps_i s195 1131 22).toInt := xeq (kp_i K205 22 rfl)
            have r214 := mf_22 J195
            have u215 : (ps_i s195 1131 22).toInt = (ps_i s180 1131 22).toInt := xeq (kp_i K195 22 rfl)
            have r216 := mf_22 J180
            have u217 : (ps_i s180 1131 22).toInt = (ps_i s 1131 22).toInt := xeq (kp_i K180 22 rfl)
            have a218 : ((4 : Int32) * (ps_i s205 1131 22)).toInt = (4 : Int) * (ps_i s205 1131 22).toInt := xIm (show -2147483648 ≤ (4 : Int) * (ps_i s205 1131 22).toInt from by omega) (show (4 : Int) * (ps_i s205 1131 22).toInt < 2147483648 from by omega)
            have a219 : (((4 : Int32) * (ps_i s205 1131 22)) + v9).toInt = ((4 : Int32) * (ps_i s205 1131 22)).toInt + v9.toInt := xIa (show -2147483648 ≤ ((4 : Int32) * (ps_i s205 1131 22)).toInt + v9.toInt from by omega) (show ((4 : Int32) * (ps_i s205 1131 22)).toInt + v9.toInt < 2147483648 from by omega)
            refine ps_nd_i (show pm_in (((4 : Int32) * (ps_i s205 1131 22)) + v9) 8 = true from xgi (show 0 ≤ (((4 : Int32) * (ps_i s205 1131 22)) + v9).toInt from by omega) (show (((4 : Int32) * (ps_i s205 1131 22)) + v9).toInt < 8 from by omega)) ?_
            have r220 : 0 ≤ (ps_a s205 1139 (Int32.toNatClampNeg (((4 : Int32) * (ps_i s205 1131 22)) + v9))).toInt ∧ (ps_a s205 1139 (Int32.toNatClampNeg (((4 : Int32) * (ps_i s205 1131 22)) + v9))).toInt ≤ 9999 := ma_1139 (i := (((4 : Int32) * (ps_i s205 1131 22)) + v9)) J205 (show 0 ≤ (((4 : Int32) * (ps_i s205 1131 22)) + v9).toInt from by omega) (show (((4 : Int32) * (ps_i s205 1131 22)) + v9).toInt < 8 from by omega)
            have u221 : (ps_a s205 1139 (Int32.toNatClampNeg (((4 : Int32) * (ps_i s205 1131 22)) + v9))).toInt = (ps_a s195 1139 (Int32.toNatClampNeg (((4 : Int32) * (ps_i s205 1131 22)) + v9))).toInt := xeq (kp_a K205 1139 rfl _)
            have r222 : 0 ≤ (ps_a s195 1139 (Int32.toNatClampNeg (((4 : Int32) * (ps_i s205 1131 22)) + v9))).toInt ∧ (ps_a s195 1139 (Int32.toNatClampNeg (((4 : Int32) * (ps_i s205 1131 22)) + v9))).toInt ≤ 9999 := ma_1139 (i := (((4 : Int32) * (ps_i s205 1131 22)) + v9)) J195 (show 0 ≤ (((4 : Int32) * (ps_i s205 1131 22)) + v9).toInt from by omega) (show (((4 : Int32) * (ps_i s205 1131 22)) + v9).toInt < 8 from by omega)
            have u223 : (ps_a s195 1139 (Int32.toNatClampNeg (((4 : Int32) * (ps_i s205 1131 22)) + v9))).toInt = (ps_a s180 1139 (Int32.toNatClampNeg (((4 : Int32) * (ps_i s205 1131 22)) + v9))).toInt := xeq (kp_a K195 1139 rfl _)
            have r224 : 0 ≤ (ps_a s180 1139 (Int32.toNatClampNeg (((4 : Int32) * (ps_i s205 1131 22)) + v9))).toInt ∧ (ps_a s180 1139 (Int32.toNatClampNeg (((4 : Int32) * (ps_i s205 1131 22)) + v9))).toInt ≤ 9999 := ma_1139 (i := (((4 : Int32) * (ps_i s205 1131 22)) + v9)) J180 (show 0 ≤ (((4 : Int32) * (ps_i s205 1131 22)) + v9).toInt from by omega) (show (((4 : Int32) * (ps_i s205 1131 22)) + v9).toInt < 8 from by omega)
            have u225 : (ps_a s180 1139 (Int32.toNatClampNeg (((4 : Int32) * (ps_i s205 1131 22)) + v9))).toInt = (ps_a s 1139 (Int32.toNatClampNeg (((4 : Int32) * (ps_i s205 1131 22)) + v9))).toInt := xeq (kp_a K180 1139 rfl _)
            have r226 : 0 ≤ (ps_a s 1139 (Int32.toNatClampNeg (((4 : Int32) * (ps_i s205 1131 22)) + v9))).toInt ∧ (ps_a s 1139 (Int32.toNatClampNeg (((4 : Int32) * (ps_i s205 1131 22)) + v9))).toInt ≤ 9999 := ma_1139 (i := (((4 : Int32) * (ps_i s205 1131 22)) + v9)) J (show 0 ≤ (((4 : Int32) * (ps_i s205 1131 22)) + v9).toInt from by omega) (show (((4 : Int32) * (ps_i s205 1131 22)) + v9).toInt < 8 from by omega)
            have hwv : (40 ≤ c ∧ c < 72 ∧ ((ps_a s205 1139 (Int32.toNatClampNeg (((4 : Int32) * (ps_i s205 1131 22)) + v9)))).toInt = 0) ∨ (20 ≤ c ∧ c < 20 + σ.1.2 ∧ ((ps_a s205 1139 (Int32.toNatClampNeg (((4 : Int32) * (ps_i s205 1131 22)) + v9)))).toInt = σ.2.2 (c - 20) ∧ σ.2.2 (c - 20) ≤ 2) := by first | exact Or.inl ⟨by omega, by omega, by decide⟩ | exact Or.inr ⟨by omega, by omega, Sg_f hS2 (by omega) (by omega)⟩
            have r227 := mf_29 J205
            have u228 : (ps_i s205 1131 29).toInt = (ps_i s195 1131 29).toInt := xeq (kp_i K205 29 rfl)
            have r229 := mf_29 J195
            have u230 : (ps_i s195 1131 29).toInt = (ps_i s180 1131 29).toInt := xeq (kp_i K195 29 rfl)
            have r231 := mf_29 J180
            have u232 : (ps_i s180 1131 29).toInt = (ps_i s 1131 29).toInt := xeq (kp_i K180 29 rfl)
            refine ms_211 J205 (show (ps_i s205 1131 29).toInt ≤ 14 from by omega) (fun s233 J233 K233 p233_0 p233_1 p233_2 p233_3 p233_4 => ?_)
            have K234 := kpt K206 K233 rfl rfl
            have KC := K233
            have hS2 : Sg (ps_a s233 1135) (ps_a s233 1136) (ps_a s233 1138) (ps_a s233 1139) (ps_i s233 1131 22).toInt σ := by rw [show ps_a s233 1135 = ps_a s205 1135 from (K233.2 1135 rfl).1, show ps_a s233 1136 = ps_a s205 1136 from (K233.2 1136 rfl).1, show ps_a s233 1138 = ps_a s205 1138 from (K233.2 1138 rfl).1, show ps_a s233 1139 = ps_a s205 1139 from (K233.2 1139 rfl).1, show ps_i s233 1131 22 = ps_i s205 1131 22 from kp_i K233 22 rfl]; exact hS2
            have hc2 : 60 ≤ c → (ps_i s233 1131 32).toInt = 0 := by rw [show ps_i s233 1131 32 = ps_i s205 1131 32 from kp_i K233 32 rfl]; exact hc2
            have hR2 : Rw (ps_a s233 1134) x1.toInt (l ++ [c]) := by rw [show ps_a s233 1134 = ps_a s205 1134 from (K233.2 1134 rfl).1]; exact hR2
            have hO : ∀ i : Nat, (i : Int) < x1.toInt ∨ x1.toInt + 41 ≤ (i : Int) → ps_a s233 1134 i = ps_a s0 1134 i := by rw [show ps_a s233 1134 = ps_a s205 1134 from (K233.2 1134 rfl).1]; exact hO
            have p233_0' : (ps_i s233 1131 29).toInt = (ps_i s205 1131 29).toInt + 1 := p233_0
            have r235 := mf_29 J233
            have w44 : _ := p233_1
            have w45 : _ := p233_2
            have w46 : _ := p233_3
            have w47 : _ := p233_4
            have u30 := xeq (kp_i KC 30 rfl)
            have u31 := xeq (kp_i KC 31 rfl)
            have u32 := xeq (kp_i KC 32 rfl)
            have g5 : ps_a s233 1145 (ps_i s205 1131 29).toInt.toNat ≠ 0 := by rw [(w45 _).trans (if_pos rfl)]; decide
            have g7 : ps_a s233 1147 (ps_i s205 1131 29).toInt.toNat = 0 := ((w47 _).trans (if_pos rfl)).trans (by decide)
            have g6 : ps_a s233 1146 (ps_i s205 1131 29).toInt.toNat = 0 := ((w46 _).trans (if_pos rfl)).trans (by decide)
            have g4 := congrArg Int32.toInt ((w44 (ps_i s205 1131 29).toInt.toNat).trans (if_pos rfl))
            have r236 := mf_8 J233
            have u237 : (ps_i s233 1131 8).toInt = (ps_i s205 1131 8).toInt := xeq (kp_i K233 8 rfl)
            have r238 := mf_4 J233
            have u239 : (ps_i s233 1131 4).toInt = (ps_i s205 1131 4).toInt := xeq (kp_i K233 4 rfl)
            have r240 := mf_5 J233
            have u241 : (ps_i s233 1131 5).toInt = (ps_i s205 1131 5).toInt := xeq (kp_i K233 5 rfl)
            have r242 := mf_5 J205
            have u243 : (ps_i s205 1131 5).toInt = (ps_i s195 1131 5).toInt := xeq (kp_i K205 5 rfl)
            have r244 := mf_5 J195
            have u245 : (ps_i s195 1131 5).toInt = (ps_i s180 1131 5).toInt := xeq (kp_i K195 5 rfl)
            have u246 : (ps_i s233 1131 30).toInt = (ps_i s205 1131 30).toInt := xeq (kp_i K233 30 rfl)
            have u247 : (ps_i s205 1131 30).toInt = (ps_i s195 1131 30).toInt := xeq (kp_i K205 30 rfl)
            have u248 : (ps_i s195 1131 30).toInt = (ps_i s180 1131 30).toInt := xeq (kp_i K195 30 rfl)
            have u249 : (ps_i s180 1131 30).toInt = (ps_i s 1131 30).toInt := xeq (kp_i K180 30 rfl)
            have r250 := mf_31 J233
            have u251 : (ps_i s233 1131 31).toInt = (ps_i s205 1131 31).toInt := xeq (kp_i K233 31 rfl)
            have r252 := mf_31 J205
            have u253 : (ps_i s205 1131 31).toInt = (ps_i s195 1131 31).toInt := xeq (kp_i K205 31 rfl)
            have r254 := mf_31 J195
            have u255 : (ps_i s195 1131 31).toInt = ((ps_i s180 1131 31) + 1).toInt := xeq (kp_i K195 31 rfl)
            exact k _ J233 K234 (show (ps_i s233 1131 8).toInt ≤ (ps_i s233 1131 4).toInt from by omega) (show 1 ≤ (ps_i s233 1131 5).toInt ∨ ((ps_i s233 1131 29).toInt ≤ 13 ∧ 0 ≤ (ps_i s233 1131 30).toInt ∧ (ps_i s233 1131 30).toInt ≤ 5 ∧ (ps_i s233 1131 31).toInt ≤ 40 ∧ (ps_i s0 1131 31).toInt < (ps_i s233 1131 31).toInt) from by omega) (show (ps_i s0 1131 31).toInt ≤ (ps_i s233 1131 31).toInt from by omega) ((by first | (exfalso; omega) | exact Or.inr ⟨_, hR2, RQ_c hH (by omega) (by omega) (kS_pusht hF g5 (hwv.imp id (fun q => ⟨q.1, q.2.1, q.2.2.1⟩))) (by omega) g4 g6 (show (ps_i s233 1131 30).toInt = (ps_i s205 1131 30).toInt + (if c = 4 ∨ c = 5 then 1 else 0) from by rw [if_neg (by omega)]; omega) ⟨fun _ => by omega, fun _ => g7⟩ (fun i hi => ⟨(w44 i).trans (if_neg (by omega)), (w45 i).trans (if_neg (by omega)), (w46 i).trans (if_neg (by omega)), (w47 i).trans (if_neg (by omega))⟩) (show (ps_i s233 1131 29).toInt = (ps_i s205 1131 29).toInt + 1 from by omega) (show (ps_i s233 1131 31).toInt = ((ps_i s205 1131 31).toInt - 1) + 1 from by omega) (show (ps_i s233 1131 32).toInt = (ps_i s205 1131 32).toInt from u32) (fun z => by omega)⟩)) (hO)
          · have f256 : v9.toInt < (0 : Int) := xlt h210
            have hwv : (40 ≤ c ∧ c < 72 ∧ ((0 : Int32)).toInt = 0) ∨ (20 ≤ c ∧ c < 20 + σ.1.2 ∧ ((0 : Int32)).toInt = σ.2.2 (c - 20) ∧ σ.2.2 (c - 20) ≤ 2) := by first | exact Or.inl ⟨by omega, by omega, by decide⟩ | exact Or.inr ⟨by omega, by omega, Sg_f hS2 (by omega) (by omega)⟩
            have r257 := mf_29 J205
            have u258 : (ps_i s205 1131 29).toInt = (ps_i s195 1131 29).toInt := xeq (kp_i K205 29 rfl)
            have r259 := mf_29 J195
            have u260 : (ps_i s195 1131 29).toInt = (ps_i s180 1131 29).toInt := xeq (kp_i K195 29 rfl)
            have r261 := mf_29 J180
            have u262 : (ps_i s180 1131 29).toInt = (ps_i s 1131 29).toInt := xeq (kp_i K180 29 rfl)
            refine ms_211 J205 (show (ps_i s205 1131 29).toInt ≤ 14 from by omega) (fun s263 J263 K263 p263_0 p263_1 p263_2 p263_3 p263_4 => ?_)
            have K264 := kpt K206 K263 rfl rfl
            have KC := K263
            have hS2 : Sg (ps_a s263 1135) (ps_a s263 1136) (ps_a s263 1138) (ps_a s263 1139) (ps_i s263 1131 22).toInt σ := by rw [show ps_a s263 1135 = ps_a s205 1135 from (K263.2 1135 rfl).1, show ps_a s263 1136 = ps_a s205 1136 from (K263.2 1136 rfl).1, show ps_a s263 1138 = ps_a s205 1138 from (K263.2 1138 rfl).1, show ps_a s263 1139 = ps_a s205 1139 from (K263.2 1139 rfl).1, show ps_i s263 1131 22 = ps_i s205 1131 22 from kp_i K263 22 rfl]; exact hS2
            have hc2 : 60 ≤ c → (ps_i s263 1131 32).toInt = 0 := by rw [show ps_i s263 1131 32 = ps_i s205 1131 32 from kp_i K263 32 rfl]; exact hc2
            have hR2 : Rw (ps_a s263 1134) x1.toInt (l ++ [c]) := by rw [show ps_a s263 1134 = ps_a s205 1134 from (K263.2 1134 rfl).1]; exact hR2
            have hO : ∀ i : Nat, (i : Int) < x1.toInt ∨ x1.toInt + 41 ≤ (i : Int) → ps_a s263 1134 i = ps_a s0 1134 i := by rw [show ps_a s263 1134 = ps_a s205 1134 from (K263.2 1134 rfl).1]; exact hO
            have p263_0' : (ps_i s263 1131 29).toInt = (ps_i s205 1131 29).toInt + 1 := p263_0
            have r265 := mf_29 J263
            have w44 : _ := p263_1
            have w45 : _ := p263_2
            have w46 : _ := p263_3
            have w47 : _ := p263_4
            have u30 := xeq (kp_i KC 30 rfl)
            have u31 := xeq (kp_i KC 31 rfl)
            have u32 := xeq (kp_i KC 32 rfl)
            have g5 : ps_a s263 1145 (ps_i s205 1131 29).toInt.toNat ≠ 0 := by rw [(w45 _).trans (if_pos rfl)]; decide
            have g7 : ps_a s263 1147 (ps_i s205 1131 29).toInt.toNat = 0 := ((w47 _).trans (if_pos rfl)).trans (by decide)
            have g6 : ps_a s263 1146 (ps_i s205 1131 29).toInt.toNat = 0 := ((w46 _).trans (if_pos rfl)).trans (by decide)
            have g4 := congrArg Int32.toInt ((w44 (ps_i s205 1131 29).toInt.toNat).trans (if_pos rfl))
            have r266 := mf_8 J263
            have u267 : (ps_i s263 1131 8).toInt = (ps_i s205 1131 8).toInt := xeq (kp_i K263 8 rfl)
            have r268 := mf_4 J263
            have u269 : (ps_i s263 1131 4).toInt = (ps_i s205 1131 4).toInt := xeq (kp_i K263 4 rfl)
            have r270 := mf_5 J263
            have u271 : (ps_i s263 1131 5).toInt = (ps_i s205 1131 5).toInt := xeq (kp_i K263 5 rfl)
            have r272 := mf_5 J205
            have u273 : (ps_i s205 1131 5).toInt = (ps_i s195 1131 5).toInt := xeq (kp_i K205 5 rfl)
            have r274 := mf_5 J195
            have u275 : (ps_i s195 1131 5).toInt = (ps_i s180 1131 5).toInt := xeq (kp_i K195 5 rfl)
            have u276 : (ps_i s263 1131 30).toInt = (ps_i s205 1131 30).toInt := xeq (kp_i K263 30 rfl)
            have u277 : (ps_i s205 1131 30).toInt = (ps_i s195 1131 30).toInt := xeq (kp_i K205 30 rfl)
            have u278 : (ps_i s195 1131 30).toInt = (ps_i s180 1131 30).toInt := xeq (kp_i K195 30 rfl)
            have u279 : (ps_i s180 1131 30).toInt = (ps_i s 1131 30).toInt := xeq (kp_i K180 30 rfl)
            have r280 := mf_31 J263
            have u281 : (ps_i s263 1131 31).toInt = (ps_i s205 1131 31).toInt := xeq (kp_i K263 31 rfl)
            have r282 := mf_31 J205
            have u283 : (ps_i s205 1131 31).toInt = (ps_i s195 1131 31).toInt := xeq (kp_i K205 31 rfl)
            have r284 := mf_31 J195
            have u285 : (ps_i s195 1131 31).toInt = ((ps_i s180 1131 31) + 1).toInt := xeq (kp_i K195 31 rfl)
            exact k _ J263 K264 (show (ps_i s263 1131 8).toInt ≤ (ps_i s263 1131 4).toInt from by omega) (show 1 ≤ (ps_i s263 1131 5).toInt ∨ ((ps_i s263 1131 29).toInt ≤ 13 ∧ 0 ≤ (ps_i s263 1131 30).toInt ∧ (ps_i s263 1131 30).toInt ≤ 5 ∧ (ps_i s263 1131 31).toInt ≤ 40 ∧ (ps_i s0 1131 31).toInt < (ps_i s263 1131 31).toInt) from by omega) (show (ps_i s0 1131 31).toInt ≤ (ps_i s263 1131 31).toInt from by omega) ((by first | (exfalso; omega) | exact Or.inr ⟨_, hR2, RQ_c hH (by omega) (by omega) (kS_pusht hF g5 (hwv.imp id (fun q => ⟨q.1, q.2.1, q.2.2.1⟩))) (by omega) g4 g6 (show (ps_i s263 1131 30).toInt = (ps_i s205 1131 30).toInt + (if c = 4 ∨ c = 5 then 1 else 0) from by rw [if_neg (by omega)]; omega) ⟨fun _ => by omega, fun _ => g7⟩ (fun i hi => ⟨(w44 i).trans (if_neg (by omega)), (w45 i).trans (if_neg (by omega)), (w46 i).trans (if_neg (by omega)), (w47 i).trans (if_neg (by omega))⟩) (show (ps_i s263 1131 29).toInt = (ps_i s205 1131 29).toInt + 1 from by omega) (show (ps_i s263 1131 31).toInt = ((ps_i s205 1131 31).toInt - 1) + 1 from by omega) (show (ps_i s263 1131 32).toInt = (ps_i s205 1131 32).toInt from u32) (fun z => by omega)⟩)) (hO)
        · have f286 : v9.toInt < (0 : Int) := xlt h192
          obtain ⟨c, hc⟩ : ∃ c : Nat, (v180).toInt = (c : Int) := ⟨(v180).toInt.toNat, by omega⟩
          have hcc : (40 ≤ c ∧ c < 72 ∧ v9.toInt < 0 ∧ (60 ≤ c → (ps_i s180 1131 32).toInt = 0)) ∨ (20 ≤ c ∧ c < 20 + σ.1.2 ∧ 0 ≤ v9.toInt ∧ c = 20 + v9.toInt.toNat) := by omega
          have hc2 : 60 ≤ c → (ps_i (ps_ui s180 1131 31 ((ps_i s180 1131 31) + 1)) 1131 32).toInt = 0 := fun z => (show (ps_i s180 1131 32).toInt = 0 from by omega)
          refine ms_210 (l := l) (p := c) J190 hR ((by have z := RH_len hH0; omega)) (hc) (fun s287 J287 K287 p287_0 p287_1 => ?_)
          have K288 := kpt K191 K287 rfl rfl
          have KC := K287
          have hS2 : Sg (ps_a s287 1135) (ps_a s287 1136) (ps_a s287 1138) (ps_a s287 1139) (ps_i s287 1131 22).toInt σ := by rw [show ps_a s287 1135 = ps_a (ps_ui s180 1131 31 ((ps_i s180 1131 31) + 1)) 1135 from (K287.2 1135 rfl).1, show ps_a s287 1136 = ps_a (ps_ui s180 1131 31 ((ps_i s180 1131 31) + 1)) 1136 from (K287.2 1136 rfl).1, show ps_a s287 1138 = ps_a (ps_ui s180 1131 31 ((ps_i s180 1131 31) + 1)) 1138 from (K287.2 1138 rfl).1, show ps_a s287 1139 = ps_a (ps_ui s180 1131 31 ((ps_i s180 1131 31) + 1)) 1139 from (K287.2 1139 rfl).1, show ps_i s287 1131 22 = ps_i (ps_ui s180 1131 31 ((ps_i s180 1131 31) + 1)) 1131 22 from kp_i K287 22 rfl]; exact hS2
          have hH : RH σ (ps_a s287 1144) (ps_a s287 1145) (ps_a s287 1146) (ps_a s287 1147) (ps_i s287 1131 29).toInt (ps_i s287 1131 30).toInt ((ps_i s287 1131 31).toInt - 1) (ps_i s287 1131 32).toInt (l) b false := by rw [show ps_a s287 1144 = ps_a (ps_ui s180 1131 31 ((ps_i s180 1131 31) + 1)) 1144 from (K287.2 1144 rfl).1, show ps_a s287 1145 = ps_a (ps_ui s180 1131 31 ((ps_i s180 1131 31) + 1)) 1145 from (K287.2 1145 rfl).1, show ps_a s287 1146 = ps_a (ps_ui s180 1131 31 ((ps_i s180 1131 31) + 1)) 1146 from (K287.2 1146 rfl).1, show ps_a s287 1147 = ps_a (ps_ui s180 1131 31 ((ps_i s180 1131 31) + 1)) 1147 from (K287.2 1147 rfl).1, show ps_i s287 1131 29 = ps_i (ps_ui s180 1131 31 ((ps_i s180 1131 31) + 1)) 1131 29 from kp_i K287 29 rfl, show ps_i s287 1131 30 = ps_i (ps_ui s180 1131 31 ((ps_i s180 1131 31) + 1)) 1131 30 from kp_i K287 30 rfl, show ps_i s287 1131 31 = ps_i (ps_ui s180 1131 31 ((ps_i s180 1131 31) + 1)) 1131 31 from kp_i K287 31 rfl, show ps_i s287 1131 32 = ps_i (ps_ui s180 1131 31 ((ps_i s180 1131 31) + 1)) 1131 32 from kp_i K287 32 rfl]; exact hH
          have hc2 : 60 ≤ c → (ps_i s287 1131 32).toInt = 0 := by rw [show ps_i s287 1131 32 = ps_i (ps_ui s180 1131 31 ((ps_i s180 1131 31) + 1)) 1131 32 from kp_i K287 32 rfl]; exact hc2
          have hR2 : Rw (ps_a s287 1134) x1.toInt (l ++ [c]) := p287_0
          have ho : _ := p287_1
          have hO : ∀ i : Nat, (i : Int) < x1.toInt ∨ x1.toInt + 41 ≤ (i : Int) → ps_a s287 1134 i = ps_a s0 1134 i := fun i hi => (ho i hi).trans (hO i hi)
          have r289 := mf_8 J287
          have u290 : (ps_i s287 1131 8).toInt = (ps_i s180 1131 8).toInt := xeq (kp_i K287 8 rfl)
          have r291 := mf_8 J180
          have u292 : (ps_i s180 1131 8).toInt = (ps_i s 1131 8).toInt := xeq (kp_i K180 8 rfl)
          have r293 := mf_4 J287
          have u294 : (ps_i s287 1131 4).toInt = (ps_i s180 1131 4).toInt := xeq (kp_i K287 4 rfl)
          have r295 := mf_4 J180
          have u296 : (ps_i s180 1131 4).toInt = (ps_i s 1131 4).toInt := xeq (kp_i K180 4 rfl)
          refine ms_194 J287 (show (ps_i s287 1131 8).toInt ≤ (ps_i s287 1131 4).toInt from by omega) (fun s297 J297 K297 p297_0 => ?_)
          have K298 := kpt K288 K297 rfl rfl
          have KC := K297
          have hS2 : Sg (ps_a s297 1135) (ps_a s297 1136) (ps_a s297 1138) (ps_a s297 1139) (ps_i s297 1131 22).toInt σ := by rw [show ps_a s297 1135 = ps_a s287 1135 from (K297.2 1135 rfl).1, show ps_a s297 1136 = ps_a s287 1136 from (K297.2 1136 rfl).1, show ps_a s297 1138 = ps_a s287 1138 from (K297.2 1138 rfl).1, show ps_a s297 1139 = ps_a s287 1139 from (K297.2 1139 rfl).1, show ps_i s297 1131 22 = ps_i s287 1131 22 from kp_i K297 22 rfl]; exact hS2
          have hH : RH σ (ps_a s297 1144) (ps_a s297 1145) (ps_a s297 1146) (ps_a s297 1147) (ps_i s297 1131 29).toInt (ps_i s297 1131 30).toInt ((ps_i s297 1131 31).toInt - 1) (ps_i s297 1131 32).toInt (l) b false := by rw [show ps_a s297 1144 = ps_a s287 1144 from (K297.2 1144 rfl).1, show ps_a s297 1145 = ps_a s287 1145 from (K297.2 1145 rfl).1, show ps_a s297 1146 = ps_a s287 1146 from (K297.2 1146 rfl).1, show ps_a s297 1147 = ps_a s287 1147 from (K297.2 1147 rfl).1, show ps_i s297 1131 29 = ps_i s287 1131 29 from kp_i K297 29 rfl, show ps_i s297 1131 30 = ps_i s287 1131 30 from kp_i K297 30 rfl, show ps_i s297 1131 31 = ps_i s287 1131 31 from kp_i K297 31 rfl, show ps_i s297 1131 32 = ps_i s287 1131 32 from kp_i K297 32 rfl]; exact hH
          have hc2 : 60 ≤ c → (ps_i s297 1131 32).toInt = 0 := by rw [show ps_i s297 1131 32 = ps_i s287 1131 32 from kp_i K297 32 rfl]; exact hc2
          have hR2 : Rw (ps_a s297 1134) x1.toInt (l ++ [c]) := by rw [show ps_a s297 1134 = ps_a s287 1134 from (K297.2 1134 rfl).1]; exact hR2
          have hO : ∀ i : Nat, (i : Int) < x1.toInt ∨ x1.toInt + 41 ≤ (i : Int) → ps_a s297 1134 i = ps_a s0 1134 i := by rw [show ps_a s297 1134 = ps_a s287 1134 from (K297.2 1134 rfl).1]; exact hO
          have p297_0' : (ps_i s297 1131 8).toInt ≤ (ps_i s297 1131 4).toInt := p297_0
          have r299 := mf_8 J297
          have r300 := mf_4 J297
          have u301 : (ps_i s297 1131 4).toInt = (ps_i s287 1131 4).toInt := xeq (kp_i K297 4 rfl)
          refine And.intro (fun h302 => ?_) (fun h302 => ?_)
          · have f303 : (0 : Int) ≤ v9.toInt := xle h302
            have r304 := mf_22 J297
            have u305 : (ps_i s297 1131 22).toInt = (ps_i s287 1131 22).toInt := xeq (kp_i K297 22 rfl)
            have r306 := mf_22 J287
            have u307 : (ps_i s287 1131 22).toInt = (ps_i s180 1131 22).toInt := xeq (kp_i K287 22 rfl)
            have r308 := mf_22 J180
            have u309 : (ps_i s180 1131 22).toInt = (ps_i s 1131 22).toInt := xeq (kp_i K180 22 rfl)
            have a310 : ((4 : Int32) * (ps_i s297 1131 22)).toInt = (4 : Int) * (ps_i s297 1131 22).toInt := xIm (show -2147483648 ≤ (4 : Int) * (ps_i s297 1131 22).toInt from by omega) (show (4 : Int) * (ps_i s297 1131 22).toInt < 2147483648 from by omega)
            have a311 : (((4 : Int32) * (ps_i s297 1131 22)) + v9).toInt = ((4 : Int32) * (ps_i s297 1131 22)).toInt + v9.toInt := xIa (show -2147483648 ≤ ((4 : Int32) * (ps_i s297 1131 22)).toInt + v9.toInt from by omega) (show ((4 : Int32) * (ps_i s297 1131 22)).toInt + v9.toInt < 2147483648 from by omega)
            refine ps_nd_i (show pm_in (((4 : Int32) * (ps_i s297 1131 22)) + v9) 8 = true from xgi (show 0 ≤ (((4 : Int32) * (ps_i s297 1131 22)) + v9).toInt from by omega) (show (((4 : Int32) * (ps_i s297 1131 22)) + v9).toInt < 8 from by omega)) ?_
            have r312 : 0 ≤ (ps_a s297 1139 (Int32.toNatClampNeg (((4 : Int32) * (ps_i s297 1131 22)) + v9))).toInt ∧ (ps_a s297 1139 (Int32.toNatClampNeg (((4 : Int32) * (ps_i s297 1131 22)) + v9))).toInt ≤ 9999 := ma_1139 (i := (((4 : Int32) * (ps_i s297 1131 22)) + v9)) J297 (show 0 ≤ (((4 : Int32) * (ps_i s297 1131 22)) + v9).toInt from by omega) (show (((4 : Int32) * (ps_i s297 1131 22)) + v9).toInt < 8 from by omega)
            have u313 : (ps_a s297 1139 (Int32.toNatClampNeg (((4 : Int32) * (ps_i s297 1131 22)) + v9))).toInt = (ps_a s287 1139 (Int32.toNatClampNeg (((4 : Int32) * (ps_i s297 1131 22)) + v9))).toInt := xeq (kp_a K297 1139 rfl _)
            have r314 : 0 ≤ (ps_a s287 1139 (Int32.toNatClampNeg (((4 : Int32) * (ps_i s297 1131 22)) + v9))).toInt ∧ (ps_a s287 1139 (Int32.toNatClampNeg (((4 : Int32) * (ps_i s297 1131 22)) + v9))).toInt ≤ 9999 := ma_1139 (i := (((4 : Int32) * (ps_i s297 1131 22)) + v9)) J287 (show 0 ≤ (((4 : Int32) * (ps_i s297 1131 22)) + v9).toInt from by omega) (show (((4 : Int32) * (ps_i s297 1131 22)) + v9).toInt < 8 from by omega)
            have u315 : (ps_a s287 1139 (Int32.toNatClampNeg (((4 : Int32) * (ps_i s297 1131 22)) + v9))).toInt = (ps_a s180 1139 (Int32.toNatClampNeg (((4 : Int32) * (ps_i s297 1131 22)) + v9))).toInt := xeq (kp_a K287 1139 rfl _)
            have r316 : 0 ≤ (ps_a s180 1139 (Int32.toNatClampNeg (((4 : Int32) * (ps_i s297 1131 22)) + v9))).toInt ∧ (ps_a s180 1139 (Int32.toNatClampNeg (((4 : Int32) * (ps_i s297 1131 22)) + v9))).toInt ≤ 9999 := ma_1139 (i := (((4 : Int32) * (ps_i s297 1131 22)) + v9)) J180 (show 0 ≤ (((4 : Int32) * (ps_i s297 1131 22)) + v9).toInt from by omega) (show (((4 : Int32) * (ps_i s297 1131 22)) + v9).toInt < 8 from by omega)
            have u317 : (ps_a s180 1139 (Int32.toNatClampNeg (((4 : Int32) * (ps_i s297 1131 22)) + v9))).toInt = (ps_a s 1139 (Int32.toNatClampNeg (((4 : Int32) * (ps_i s297 1131 22)) + v9))).toInt := xeq (kp_a K180 1139 rfl _)
            have r318 : 0 ≤ (ps_a s 1139 (Int32.toNatClampNeg (((4 : Int32) * (ps_i s297 1131 22)) + v9))).toInt ∧ (ps_a s 1139 (Int32.toNatClampNeg (((4 : Int32) * (ps_i s297 1131 22)) + v9))).toInt ≤ 9999 := ma_1139 (i := (((4 : Int32) * (ps_i s297 1131 22)) + v9)) J (show 0 ≤ (((4 : Int32) * (ps_i s297 1131 22)) + v9).toInt from by omega) (show (((4 : Int32) * (ps_i s297 1131 22)) + v9).toInt < 8 from by omega)
            have hwv : (40 ≤ c ∧ c < 72 ∧ ((ps_a s297 1139 (Int32.toNatClampNeg (((4 : Int32) * (ps_i s297 1131 22)) + v9)))).toInt = 0) ∨ (20 ≤ c ∧ c < 20 + σ.1.2 ∧ ((ps_a s297 1139 (Int32.toNatClampNeg (((4 : Int32) * (ps_i s297 1131 22)) + v9)))).toInt = σ.2.2 (c - 20) ∧ σ.2.2 (c - 20) ≤ 2) := by first | exact Or.inl ⟨by omega, by omega, by decide⟩ | exact Or.inr ⟨by omega, by omega, Sg_f hS2 (by omega) (by omega)⟩
            have r319 := mf_29 J297
            have u320 : (ps_i s297 1131 29).toInt = (ps_i s287 1131 29).toInt := xeq (kp_i K297 29 rfl)
            have r321 := mf_29 J287
            have u322 : (ps_i s287 1131 29).toInt = (ps_i s180 1131 29).toInt := xeq (kp_i K287 29 rfl)
            have r323 := mf_29 J180
            have u324 : (ps_i s180 1131 29).toInt = (ps_i s 1131 29).toInt := xeq (kp_i K180 29 rfl)
            refine ms_211 J297 (show (ps_i s297 1131 29).toInt ≤ 14 from by omega) (fun s325 J325 K325 p325_0 p325_1 p325_2 p325_3 p325_4 => ?_)
            have K326 := kpt K298 K325 rfl rfl
            have KC := K325
            have hS2 : Sg (ps_a s325 1135) (ps_a s325 1136) (ps_a s325 1138) (ps_a s325 1139) (ps_i s325 1131 22).toInt σ := by rw [show ps_a s325 1135 = ps_a s297 1135 from (K325.2 1135 rfl).1, show ps_a s325 1136 = ps_a s297 1136 from (K325.2 1136 rfl).1, show ps_a s325 1138 = ps_a s297 1138 from (K325.2 1138 rfl).1, show ps_a s325 1139 = ps_a s297 1139 from (K325.2 1139 rfl).1, show ps_i s325 1131 22 = ps_i s297 1131 22 from kp_i K325 22 rfl]; exact hS2
            have hc2 : 60 ≤ c → (ps_i s325 1131 32).toInt = 0 := by rw [show ps_i s325 1131 32 = ps_i s297 1131 32 from kp_i K325 32 rfl]; exact hc2
            have hR2 : Rw (ps_a s325 1134) x1.toInt (l ++ [c]) := by rw [show ps_a s325 1134 = ps_a s297 1134 from (K325.2 1134 rfl).1]; exact hR2
            have hO : ∀ i : Nat, (i : Int) < x1.toInt ∨ x1.toInt + 41 ≤ (i : Int) → ps_a s325 1134 i = ps_a s0 1134 i := by rw [show ps_a s325 1134 = ps_a s297 1134 from (K325.2 1134 rfl).1]; exact hO
            have p325_0' : (ps_i s325 1131 29).toInt = (ps_i s297 1131 29).toInt + 1 := p325_0
            have r327 := mf_29 J325
            have w44 : _ := p325_1
            have w45 : _ := p325_2
            have w46 : _ := p325_3
            have w47 : _ := p325_4
            have u30 := xeq (kp_i KC 30 rfl)
            have u31 := xeq (kp_i KC 31 rfl)
            have u32 := xeq (kp_i KC 32 rfl)
            have g5 : ps_a s325 1145 (ps_i s297 1131 29).toInt.toNat ≠ 0 := by rw [(w45 _).trans (if_pos rfl)]; decide
            have g7 : ps_a s325 1147 (ps_i s297 1131 29).toInt.toNat = 0 := ((w47 _).trans (if_pos rfl)).trans (by decide)
            have g6 : ps_a s325 1146 (ps_i s297 1131 29).toInt.toNat = 0 := ((w46 _).trans (if_pos rfl)).trans (by decide)
            have g4 := congrArg Int32.toInt ((w44 (ps_i s297 1131 29).toInt.toNat).trans (if_pos rfl))
            have r328 := mf_8 J325
            have u329 : (ps_i s325 1131 8).toInt = (ps_i s297 1131 8).toInt := xeq (kp_i K325 8 rfl)
            have r330 := mf_4 J325
            have u331 : (ps_i s325 1131 4).toInt = (ps_i s297 1131 4).toInt := xeq (kp_i K325 4 rfl)
            have r332 := mf_5 J325
            have u333 : (ps_i s325 1131 5).toInt = (ps_i s297 1131 5).toInt := xeq (kp_i K325 5 rfl)
            have r334 := mf_5 J297
            have u335 : (ps_i s297 1131 5).toInt = (ps_i s287 1131 5).toInt := xeq (kp_i K297 5 rfl)
            have r336 := mf_5 J287
            have u337 : (ps_i s287 1131 5).toInt = (ps_i s180 1131 5).toInt := xeq (kp_i K287 5 rfl)
            have u338 : (ps_i s325 1131 30).toInt = (ps_i s297 1131 30).toInt := xeq (kp_i K325 30 rfl)
            have u339 : (ps_i s297 1131 30).toInt = (ps_i s287 1131 30).toInt := xeq (kp_i K297 30 rfl)
            have u340 : (ps_i s287 1131 30).toInt = (ps_i s180 1131 30).toInt := xeq (kp_i K287 30 rfl)
            have u341 : (ps_i s180 1131 30).toInt = (ps_i s 1131 30).toInt := xeq (kp_i K180 30 rfl)
            have r342 := mf_31 J325
            have u343 : (ps_i s325 1131 31).toInt = (ps_i s297 1131 31).toInt := xeq (kp_i K325 31 rfl)
            have r344 := mf_31 J297
            have u345 : (ps_i s297 1131 31).toInt = (ps_i s287 1131 31).toInt := xeq (kp_i K297 31 rfl)
            have r346 := mf_31 J287
            have u347 : (ps_i s287 1131 31).toInt = ((ps_i s180 1131 31) + 1).toInt := xeq (kp_i K287 31 rfl)
            exact k _ J325 K326 (show (ps_i s325 1131 8).toInt ≤ (ps_i s325 1131 4).toInt from by omega) (show 1 ≤ (ps_i s325 1131 5).toInt ∨ ((ps_i s325 1131 29).toInt ≤ 13 ∧ 0 ≤ (ps_i s325 1131 30).toInt ∧ (ps_i s325 1131 30).toInt ≤ 5 ∧ (ps_i s325 1131 31).toInt ≤ 40 ∧ (ps_i s0 1131 31).toInt < (ps_i s325 1131 31).toInt) from by omega) (show (ps_i s0 1131 31).toInt ≤ (ps_i s325 1131 31).toInt from by omega) ((by first | (exfalso; omega) | exact Or.inr ⟨_, hR2, RQ_c hH (by omega) (by omega) (kS_pusht hF g5 (hwv.imp id (fun q => ⟨q.1, q.2.1, q.2.2.1⟩))) (by omega) g4 g6 (show (ps_i s325 1131 30).toInt = (ps_i s297 1131 30).toInt + (if c = 4 ∨ c = 5 then 1 else 0) from by rw [if_neg (by omega)]; omega) ⟨fun _ => by omega, fun _ => g7⟩ (fun i hi => ⟨(w44 i).trans (if_neg (by omega)), (w45 i).trans (if_neg (by omega)), (w46 i).trans (if_neg (by omega)), (w47 i).trans (if_neg (by omega))⟩) (show (ps_i s325 1131 29).toInt = (ps_i s297 1131 29).toInt + 1 from by omega) (show (ps_i s325 1131 31).toInt = ((ps_i s297 1131 31).toInt - 1) + 1 from by omega) (show (ps_i s325 1131 32).toInt = (ps_i s297 1131 32).toInt from u32) (fun z => by omega)⟩)) (hO)
          · have f348 : v9.toInt < (0 : Int) := xlt h302
            have hwv : (40 ≤ c ∧ c < 72 ∧ ((0 : Int32)).toInt = 0) ∨ (20 ≤ c ∧ c < 20 + σ.1.2 ∧ ((0 : Int32)).toInt = σ.2.2 (c - 20) ∧ σ.2.2 (c - 20) ≤ 2) := by first | exact Or.inl ⟨by omega, by omega, by decide⟩ | exact Or.inr ⟨by omega, by omega, Sg_f hS2 (by omega) (by omega)⟩
            have r349 := mf_29 J297
            have u350 : (ps_i s297 1131 29).toInt = (ps_i s287 1131 29).toInt := xeq (kp_i K297 29 rfl)
            have r351 := mf_29 J287
            have u352 : (ps_i s287 1131 29).toInt = (ps_i s180 1131 29).toInt := xeq (kp_i K287 29 rfl)
            have r353 := mf_29 J180
            have u354 : (ps_i s180 1131 29).toInt = (ps_i s 1131 29).toInt := xeq (kp_i K180 29 rfl)
            refine ms_211 J297 (show (ps_i s297 1131 29).toInt ≤ 14 from by omega) (fun s355 J355 K355 p355_0 p355_1 p355_2 p355_3 p355_4 => ?_)
            have K356 := kpt K298 K355 rfl rfl
            have KC := K355
            have hS2 : Sg (ps_a s355 1135) (ps_a s355 1136) (ps_a s355 1138) (ps_a s355 1139) (ps_i s355 1131 22).toInt σ := by rw [show ps_a s355 1135 = ps_a s297 1135 from (K355.2 1135 rfl).1, show ps_a s355 1136 = ps_a s297 1136 from (K355.2 1136 rfl).1, show ps_a s355 1138 = ps_a s297 1138 from (K355.2 1138 rfl).1, show ps_a s355 1139 = ps_a s297 1139 from (K355.2 1139 rfl).1, show ps_i s355 1131 22 = ps_i s297 1131 22 from kp_i K355 22 rfl]; exact hS2
            have hc2 : 60 ≤ c → (ps_i s355 1131 32).toInt = 0 := by rw [show ps_i s355 1131 32 = ps_i s297 1131 32 from kp_i K355 32 rfl]; exact hc2
            have hR2 : Rw (ps_a s355 1134) x1.toInt (l ++ [c]) := by rw [show ps_a s355 1134 = ps_a s297 1134 from (K355.2 1134 rfl).1]; exact hR2
            have hO : ∀ i : Nat, (i : Int) < x1.toInt ∨ x1.toInt + 41 ≤ (i : Int) → ps_a s355 1134 i = ps_a s0 1134 i := by rw [show ps_a s355 1134 = ps_a s297 1134 from (K355.2 1134 rfl).1]; exact hO
            have p355_0' : (ps_i s355 1131 29).toInt = (ps_i s297 1131 29).toInt + 1 := p355_0
            have r357 := mf_29 J355
            have w44 : _ := p355_1
            have w45 : _ := p355_2
            have w46 : _ := p355_3
            have w47 : _ := p355_4
            have u30 := xeq (kp_i KC 30 rfl)
            have u31 := xeq (kp_i KC 31 rfl)
            have u32 := xeq (kp_i KC 32 rfl)
            have g5 : ps_a s355 1145 (ps_i s297 1131 29).toInt.toNat ≠ 0 := by rw [(w45 _).trans (if_pos rfl)]; decide
            have g7 : ps_a s355 1147 (ps_i s297 1131 29).toInt.toNat = 0 := ((w47 _).trans (if_pos rfl)).trans (by decide)
            have g6 : ps_a s355 1146 (ps_i s297 1131 29).toInt.toNat = 0 := ((w46 _).trans (if_pos rfl)).trans (by decide)
            have g4 := congrArg Int32.toInt ((w44 (ps_i s297 1131 29).toInt.toNat).trans (if_pos rfl))
            have r358 := mf_8 J355
            have u359 : (ps_i s355 1131 8).toInt = (ps_i s297 1131 8).toInt := xeq (kp_i K355 8 rfl)
            have r360 := mf_4 J355
            have u361 : (ps_i s355 1131 4).toInt = (ps_i s297 1131 4).toInt := xeq (kp_i K355 4 rfl)
            have r362 := mf_5 J355
            have u363 : (ps_i s355 1131 5).toInt = (ps_i s297 1131 5).toInt := xeq (kp_i K355 5 rfl)
            have r364 := mf_5 J297
            have u365 : (ps_i s297 1131 5).toInt = (ps_i s287 1131 5).toInt := xeq (kp_i K297 5 rfl)
            have r366 := mf_5 J287
            have u367 : (ps_i s287 1131 5).toInt = (ps_i s180 1131 5).toInt := xeq (kp_i K287 5 rfl)
            have u368 : (ps_i s355 1131 30).toInt = (ps_i s297 1131 30).toInt := xeq (kp_i K355 30 rfl)
            have u369 : (ps_i s297 1131 30).toInt = (ps_i s287 1131 30).toInt := xeq (kp_i K297 30 rfl)
            have u370 : (ps_i s287 1131 30).toInt = (ps_i s180 1131 30).toInt := xeq (kp_i K287 30 rfl)
            have u371 : (ps_i s180 1131 30).toInt = (ps_i s 1131 30).toInt := xeq (kp_i K180 30 rfl)
            have r372 := mf_31 J355
            have u373 : (ps_i s355 1131 31).toInt = (ps_i s297 1131 31).toInt := xeq (kp_i K355 31 rfl)
            have r374 := mf_31 J297
            have u375 : (ps_i s297 1131 31).toInt = (ps_i s287 1131 31).toInt := xeq (kp_i K297 31 rfl)
            have r376 := mf_31 J287
            have u377 : (ps_i s287 1131 31).toInt = ((ps_i s180 1131 31) + 1).toInt := xeq (kp_i K287 31 rfl)
            exact k _ J355 K356 (show (ps_i s355 1131 8).toInt ≤ (ps_i s355 1131 4).toInt from by omega) (show 1 ≤ (ps_i s355 1131 5).toInt ∨ ((ps_i s355 1131 29).toInt ≤ 13 ∧ 0 ≤ (ps_i s355 1131 30).toInt ∧ (ps_i s355 1131 30).toInt ≤ 5 ∧ (ps_i s355 1131 31).toInt ≤ 40 ∧ (ps_i s0 1131 31).toInt < (ps_i s355 1131 31).toInt) from by omega) (show (ps_i s0 1131 31).toInt ≤ (ps_i s355 1131 31).toInt from by omega) ((by first | (exfalso; omega) | exact Or.inr ⟨_, hR2, RQ_c hH (by omega) (by omega) (kS_pusht hF g5 (hwv.imp id (fun q => ⟨q.1, q.2.1, q.2.2.1⟩))) (by omega) g4 g6 (show (ps_i s355 1131 30).toInt = (ps_i s297 1131 30).toInt + (if c = 4 ∨ c = 5 then 1 else 0) from by rw [if_neg (by omega)]; omega) ⟨fun _ => by omega, fun _ => g7⟩ (fun i hi => ⟨(w44 i).trans (if_neg (by omega)), (w45 i).trans (if_neg (by omega)), (w46 i).trans (if_neg (by omega)), (w47 i).trans (if_neg (by omega))⟩) (show (ps_i s355 1131 29).toInt = (ps_i s297 1131 29).toInt + 1 from by omega) (show (ps_i s355 1131 31).toInt = ((ps_i s297 1131 31).toInt - 1) + 1 from by omega) (show (ps_i s355 1131 32).toInt = (ps_i s297 1131 32).toInt from u32) (fun z => by omega)⟩)) (hO)
      · have f378 : v184.toInt = (0 : Int) := xeq h185
        have qz378 : 1 ≤ (ps_i s180 1131 5).toInt := by omega
        clear p184_0' p184_0
        have r379 := mf_8 J180
        have u380 : (ps_i s180 1131 8).toInt = (ps_i s 1131 8).toInt := xeq (kp_i K180 8 rfl)
        have r381 := mf_4 J180
        have u382 : (ps_i s180 1131 4).toInt = (ps_i s 1131 4).toInt := xeq (kp_i K180 4 rfl)
        have r383 := mf_29 J180
        have u384 : (ps_i s180 1131 29).toInt = (ps_i s 1131 29).toInt := xeq (kp_i K180 29 rfl)
        have u385 : (ps_i s180 1131 30).toInt = (ps_i s 1131 30).toInt := xeq (kp_i K180 30 rfl)
        have r386 := mf_31 J180
        have u387 : (ps_i s180 1131 31).toInt = (ps_i s 1131 31).toInt := xeq (kp_i K180 31 rfl)
        exact k _ J180 K181 (show (ps_i s180 1131 8).toInt ≤ (ps_i s180 1131 4).toInt from by omega) (show 1 ≤ (ps_i s180 1131 5).toInt ∨ ((ps_i s180 1131 29).toInt ≤ 13 ∧ 0 ≤ (ps_i s180 1131 30).toInt ∧ (ps_i s180 1131 30).toInt ≤ 5 ∧ (ps_i s180 1131 31).toInt ≤ 40 ∧ (ps_i s0 1131 31).toInt < (ps_i s180 1131 31).toInt) from by omega) (show (ps_i s0 1131 31).toInt ≤ (ps_i s180 1131 31).toInt from by omega) (Or.inl (show 1 ≤ (ps_i s180 1131 5).toInt from by omega)) (hO)
  · have f388 : v6.toInt = (0 : Int) := xeq h7
    have qz388 : 1 ≤ (ps_i s 1131 5).toInt := by omega
    clear p6_0' p6_0
    exact k _ J K (show (ps_i s 1131 8).toInt ≤ (ps_i s 1131 4).toInt from by omega) (show 1 ≤ (ps_i s 1131 5).toInt ∨ ((ps_i s 1131 29).toInt ≤ 13 ∧ 0 ≤ (ps_i s 1131 30).toInt ∧ (ps_i s 1131 30).toInt ≤ 5 ∧ (ps_i s 1131 31).toInt ≤ 40 ∧ (ps_i s0 1131 31).toInt < (ps_i s 1131 31).toInt) from by omega) (show (ps_i s0 1131 31).toInt ≤ (ps_i s 1131 31).toInt from by omega) (Or.inl (show 1 ≤ (ps_i s 1131 5).toInt from by omega)) (hO)

