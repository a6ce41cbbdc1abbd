set_option maxRecDepth 100000
theorem ms_204_27 {x : Nat → Nat → Nat} {t : Int32} {d : Nat} {s0 : ps_S} {σ : mSig} {c5 c6 c7 : Int} {Q : Option Value → ps_S → Prop} (k : ∀ (s' : ps_S), mJ x t s' → kp [1134, 1135, 1136, 1137, 1138, 1139, 1140, 1141, 1142, 1143, 1144, 1145, 1146, 1147, 1148] [5, 6, 7, 8, 9, 10, 11, 23, 29, 30, 31, 32] s0 s' → ((ps_i s' 1131 8).toInt ≤ (ps_i s' 1131 4).toInt) → (1 ≤ (ps_i s' 1131 5).toInt ∨ ∃ τ, TH τ (ps_a s' 1134) (ps_a s' 1135) (ps_a s' 1136) (ps_a s' 1137) (ps_a s' 1138) (ps_a s' 1139) (ps_i s' 1131 22).toInt) → (KB (ps_i s' 1131 22).toInt (ps_a s0 1134) (ps_a s0 1135) (ps_a s0 1136) (ps_a s0 1137) (ps_a s0 1138) (ps_a s0 1139) (ps_a s' 1134) (ps_a s' 1135) (ps_a s' 1136) (ps_a s' 1137) (ps_a s' 1138) (ps_a s' 1139)) → (1 ≤ (ps_i s' 1131 5).toInt ∨ (ps_a s' 1135 (Int32.toNatClampNeg (ps_i s' 1131 22))).toInt + (ps_a s' 1136 (Int32.toNatClampNeg (ps_i s' 1131 22))).toInt + (ps_a s' 1137 (Int32.toNatClampNeg (ps_i s' 1131 22))).toInt = c5 + c6 + c7 + 1) → (c5 + c6 + c7 ≤ (ps_a s' 1135 (Int32.toNatClampNeg (ps_i s' 1131 22))).toInt + (ps_a s' 1136 (Int32.toNatClampNeg (ps_i s' 1131 22))).toInt + (ps_a s' 1137 (Int32.toNatClampNeg (ps_i s' 1131 22))).toInt) → Q none s') (x1 : Int32) (x2 : Int32) (s : ps_S) (J : mJ x t s) (K : kp [1134, 1135, 1136, 1137, 1138, 1139, 1140, 1141, 1142, 1143, 1144, 1145, 1146, 1147, 1148] [5, 6, 7, 8, 9, 10, 11, 23, 29, 30, 31, 32] s0 s) (hT : TH σ (ps_a s 1134) (ps_a s 1135) (ps_a s 1136) (ps_a s 1137) (ps_a s 1138) (ps_a s 1139) (ps_i s 1131 22).toInt) (hK : KB (ps_i s 1131 22).toInt (ps_a s0 1134) (ps_a s0 1135) (ps_a s0 1136) (ps_a s0 1137) (ps_a s0 1138) (ps_a s0 1139) (ps_a s 1134) (ps_a s 1135) (ps_a s 1136) (ps_a s 1137) (ps_a s 1138) (ps_a s 1139)) (hC5 : (ps_a s 1135 (Int32.toNatClampNeg (ps_i s 1131 22))).toInt = c5) (hC6 : (ps_a s 1136 (Int32.toNatClampNeg (ps_i s 1131 22))).toInt = c6) (hC7 : (ps_a s 1137 (Int32.toNatClampNeg (ps_i s 1131 22))).toInt = c7) (i5 : (ps_i s 1131 8).toInt ≤ (ps_i s 1131 4).toInt) (i6 : (ps_i s 1131 22).toInt = (ps_i s0 1131 22).toInt) (i7 : 1 ≤ (ps_i s 1131 5).toInt ∨ (x1.toInt ≠ 0 ∧ x2.toInt = 0 ∧ c5 < 6) ∨ (x1.toInt = 0 ∧ x2.toInt = 0 ∧ c6 < 4) ∨ (x1.toInt = 0 ∧ x2.toInt ≠ 0 ∧ c7 < 8)) : ps_At (d + 6) 204 27 [(0, .ref 1131), (1, .int x1), (2, .int x2)] [] s Q := by
  have r1 := mf_8 J
  have r2 := mf_4 J
  have r3 := mf_22 J
  have r4 := mf_5 J
  refine pg_204_27 (d := d + 5) ?_
  refine ms_192 J  (fun v5 p5_0 b5 => ?_)
  have p5_0' : (v5.toInt = 0 ∧ 1 ≤ (ps_i s 1131 5).toInt) ∨ (v5.toInt = 1 ∧ (ps_i s 1131 5).toInt = 0) := p5_0
  refine And.intro (fun h6 => ?_) (fun h6 => ?_)
  · have f7 : v5.toInt ≠ (0 : Int) := xne h6
    have qz7 : (ps_i s 1131 5).toInt = 0 := by omega
    clear p5_0' p5_0
    refine ms_194 J (show (ps_i s 1131 8).toInt ≤ (ps_i s 1131 4).toInt from by omega) (fun s8 J8 K8 p8_0 => ?_)
    have K9 := kpt K K8 rfl rfl
    have KC := K8
    have hT : TH σ (ps_a s8 1134) (ps_a s8 1135) (ps_a s8 1136) (ps_a s8 1137) (ps_a s8 1138) (ps_a s8 1139) (ps_i s8 1131 22).toInt := by rw [show ps_a s8 1134 = ps_a s 1134 from (K8.2 1134 rfl).1, show ps_a s8 1135 = ps_a s 1135 from (K8.2 1135 rfl).1, show ps_a s8 1136 = ps_a s 1136 from (K8.2 1136 rfl).1, show ps_a s8 1137 = ps_a s 1137 from (K8.2 1137 rfl).1, show ps_a s8 1138 = ps_a s 1138 from (K8.2 1138 rfl).1, show ps_a s8 1139 = ps_a s 1139 from (K8.2 1139 rfl).1, show ps_i s8 1131 22 = ps_i s 1131 22 from kp_i K8 22 rfl]; exact hT
    have hK : KB (ps_i s8 1131 22).toInt (ps_a s0 1134) (ps_a s0 1135) (ps_a s0 1136) (ps_a s0 1137) (ps_a s0 1138) (ps_a s0 1139) (ps_a s8 1134) (ps_a s8 1135) (ps_a s8 1136) (ps_a s8 1137) (ps_a s8 1138) (ps_a s8 1139) := by rw [show ps_a s8 1134 = ps_a s 1134 from (K8.2 1134 rfl).1, show ps_a s8 1135 = ps_a s 1135 from (K8.2 1135 rfl).1, show ps_a s8 1136 = ps_a s 1136 from (K8.2 1136 rfl).1, show ps_a s8 1137 = ps_a s 1137 from (K8.2 1137 rfl).1, show ps_a s8 1138 = ps_a s 1138 from (K8.2 1138 rfl).1, show ps_a s8 1139 = ps_a s 1139 from (K8.2 1139 rfl).1, show ps_i s8 1131 22 = ps_i s 1131 22 from kp_i K8 22 rfl]; exact hK
    have hC5 : (ps_a s8 1135 (Int32.toNatClampNeg (ps_i s8 1131 22))).toInt = c5 := by rw [show ps_a s8 1135 = ps_a s 1135 from (K8.2 1135 rfl).1, show ps_i s8 1131 22 = ps_i s 1131 22 from kp_i K8 22 rfl]; exact hC5
    have hC6 : (ps_a s8 1136 (Int32.toNatClampNeg (ps_i s8 1131 22))).toInt = c6 := by rw [show ps_a s8 1136 = ps_a s 1136 from (K8.2 1136 rfl).1, show ps_i s8 1131 22 = ps_i s 1131 22 from kp_i K8 22 rfl]; exact hC6
    have hC7 : (ps_a s8 1137 (Int32.toNatClampNeg (ps_i s8 1131 22))).toInt = c7 := by rw [show ps_a s8 1137 = ps_a s 1137 from (K8.2 1137 rfl).1, show ps_i s8 1131 22 = ps_i s 1131 22 from kp_i K8 22 rfl]; exact hC7
    have p8_0' : (ps_i s8 1131 8).toInt ≤ (ps_i s8 1131 4).toInt := p8_0
    have r10 := mf_8 J8
    have r11 := mf_4 J8
    have u12 : (ps_i s8 1131 4).toInt = (ps_i s 1131 4).toInt := xeq (kp_i K8 4 rfl)
    have r13 := mf_9 J8
    refine And.intro (fun h14 => ?_) (fun h14 => ?_)
    · have f15 : (ps_i s8 1131 9).toInt = (2 : Int) := xeq h14
      refine And.intro (fun h16 => ?_) (fun h16 => ?_)
      · have f17 : x2.toInt = (0 : Int) := xeq h16
        refine ms_206 J8  (fun v18 p18_0 p18_1 => ?_)
        have p18_0' : -1 ≤ v18.toInt := p18_0
        have p18_1' : v18.toInt < (ps_a s8 1135 (Int32.toNatClampNeg (ps_i s8 1131 22))).toInt := p18_1
        have r19 := mf_22 J8
        have u20 : (ps_i s8 1131 22).toInt = (ps_i s 1131 22).toInt := xeq (kp_i K8 22 rfl)
        have r21 : 0 ≤ (ps_a s8 1135 (Int32.toNatClampNeg (ps_i s8 1131 22))).toInt ∧ (ps_a s8 1135 (Int32.toNatClampNeg (ps_i s8 1131 22))).toInt ≤ 6 := ma_1135 (i := (ps_i s8 1131 22)) J8 (show 0 ≤ (ps_i s8 1131 22).toInt from by omega) (show (ps_i s8 1131 22).toInt < 2 from by omega)
        have u22 : (ps_a s8 1135 (Int32.toNatClampNeg (ps_i s8 1131 22))).toInt = (ps_a s 1135 (Int32.toNatClampNeg (ps_i s8 1131 22))).toInt := xeq (kp_a K8 1135 rfl _)
        have r23 : 0 ≤ (ps_a s 1135 (Int32.toNatClampNeg (ps_i s8 1131 22))).toInt ∧ (ps_a s 1135 (Int32.toNatClampNeg (ps_i s8 1131 22))).toInt ≤ 6 := ma_1135 (i := (ps_i s8 1131 22)) J (show 0 ≤ (ps_i s8 1131 22).toInt from by omega) (show (ps_i s8 1131 22).toInt < 2 from by omega)
        refine And.intro (fun h24 => ?_) (fun h24 => ?_)
        · have f25 : (0 : Int) ≤ v18.toInt := xle h24
          have r26 := mf_5 J8
          have u27 : (ps_i s8 1131 5).toInt = (ps_i s 1131 5).toInt := xeq (kp_i K8 5 rfl)
          exact ms_204_82 (σ := σ) (c5 := c5) (c6 := c6) (c7 := c7) k  x1 x2 _ J8 K9 hT hK hC5 hC6 hC7 (show (ps_i s8 1131 8).toInt ≤ (ps_i s8 1131 4).toInt from by omega) (show (ps_i s8 1131 22).toInt = (ps_i s0 1131 22).toInt from by omega) (show (ps_i s8 1131 5).toInt = 0 from by omega) (show (x1.toInt ≠ 0 ∧ x2.toInt = 0 ∧ c5 < 6) ∨ (x1.toInt = 0 ∧ x2.toInt = 0 ∧ c6 < 4) ∨ (x1.toInt = 0 ∧ x2.toInt ≠ 0 ∧ c7 < 8) from by omega)
        · have f28 : v18.toInt < (0 : Int) := xlt h24
          refine ms_207 J8  (fun v29 p29_0 p29_1 => ?_)
          have p29_0' : -1 ≤ v29.toInt := p29_0
          have p29_1' : v29.toInt < (ps_a s8 1136 (Int32.toNatClampNeg (ps_i s8 1131 22))).toInt := p29_1
          have r30 : 0 ≤ (ps_a s8 1136 (Int32.toNatClampNeg (ps_i s8 1131 22))).toInt ∧ (ps_a s8 1136 (Int32.toNatClampNeg (ps_i s8 1131 22))).toInt ≤ 4 := ma_1136 (i := (ps_i s8 1131 22)) J8 (show 0 ≤ (ps_i s8 1131 22).toInt from by omega) (show (ps_i s8 1131 22).toInt < 2 from by omega)
          have u31 : (ps_a s8 1136 (Int32.toNatClampNeg (ps_i s8 1131 22))).toInt = (ps_a s 1136 (Int32.toNatClampNeg (ps_i s8 1131 22))).toInt := xeq (kp_a K8 1136 rfl _)
          have r32 : 0 ≤ (ps_a s 1136 (Int32.toNatClampNeg (ps_i s8 1131 22))).toInt ∧ (ps_a s 1136 (Int32.toNatClampNeg (ps_i s8 1131 22))).toInt ≤ 4 := ma_1136 (i := (ps_i s8 1131 22)) J (show 0 ≤ (ps_i s8 1131 22).toInt from by omega) (show (ps_i s8 1131 22).toInt < 2 from by omega)
          refine And.intro (fun h33 => ?_) (fun h33 => ?_)
          · have f34 : v29.toInt < (0 : Int) := xlt h33
            have r35 := mf_5 J8
            have u36 : (ps_i s8 1131 5).toInt = (ps_i s 1131 5).toInt := xeq (kp_i K8 5 rfl)
            exact ms_204_91 (σ := σ) (c5 := c5) (c6 := c6) (c7 := c7) k  x1 x2 _ J8 K9 hT hK hC5 hC6 hC7 (show (ps_i s8 1131 8).toInt ≤ (ps_i s8 1131 4).toInt from by omega) (show (ps_i s8 1131 22).toInt = (ps_i s0 1131 22).toInt from by omega) (show 1 ≤ (ps_i s8 1131 5).toInt ∨ (x1.toInt ≠ 0 ∧ x2.toInt = 0 ∧ c5 < 6) ∨ (x1.toInt = 0 ∧ x2.toInt = 0 ∧ c6 < 4) ∨ (x1.toInt = 0 ∧ x2.toInt ≠ 0 ∧ c7 < 8) from by omega)
          · have f37 : (0 : Int) ≤ v29.toInt := xle h33
            have r38 := mf_5 J8
            have u39 : (ps_i s8 1131 5).toInt = (ps_i s 1131 5).toInt := xeq (kp_i K8 5 rfl)
            exact ms_204_82 (σ := σ) (c5 := c5) (c6 := c6) (c7 := c7) k  x1 x2 _ J8 K9 hT hK hC5 hC6 hC7 (show (ps_i s8 1131 8).toInt ≤ (ps_i s8 1131 4).toInt from by omega) (show (ps_i s8 1131 22).toInt = (ps_i s0 1131 22).toInt from by omega) (show (ps_i s8 1131 5).toInt = 0 from by omega) (show (x1.toInt ≠ 0 ∧ x2.toInt = 0 ∧ c5 < 6) ∨ (x1.toInt = 0 ∧ x2.toInt = 0 ∧ c6 < 4) ∨ (x1.toInt = 0 ∧ x2.toInt ≠ 0 ∧ c7 < 8) from by omega)
      · have f40 : x2.toInt ≠ (0 : Int) := xne h16
        refine ms_205 J8  (fun v41 p41_0 p41_1 => ?_)
        have p41_0' : -1 ≤ v41.toInt := p41_0
        have p41_1' : v41.toInt < (ps_a s8 1137 (Int32.toNatClampNeg (ps_i s8 1131 22))).toInt := p41_1
        have r42 := mf_22 J8
        have u43 : (ps_i s8 1131 22).toInt = (ps_i s 1131 22).toInt := xeq (kp_i K8 22 rfl)
        have r44 : 0 ≤ (ps_a s8 1137 (Int32.toNatClampNeg (ps_i s8 1131 22))).toInt ∧ (ps_a s8 1137 (Int32.toNatClampNeg (ps_i s8 1131 22))).toInt ≤ 8 := ma_1137 (i := (ps_i s8 1131 22)) J8 (show 0 ≤ (ps_i s8 1131 22).toInt from by omega) (show (ps_i s8 1131 22).toInt < 2 from by omega)
        have u45 : (ps_a s8 1137 (Int32.toNatClampNeg (ps_i s8 1131 22))).toInt = (ps_a s 1137 (Int32.toNatClampNeg (ps_i s8 1131 22))).toInt := xeq (kp_a K8 1137 rfl _)
        have r46 : 0 ≤ (ps_a s 1137 (Int32.toNatClampNeg (ps_i s8 1131 22))).toInt ∧ (ps_a s 1137 (Int32.toNatClampNeg (ps_i s8 1131 22))).toInt ≤ 8 := ma_1137 (i := (ps_i s8 1131 22)) J (show 0 ≤ (ps_i s8 1131 22).toInt from by omega) (show (ps_i s8 1131 22).toInt < 2 from by omega)
        refine And.intro (fun h47 => ?_) (fun h47 => ?_)
        · have f48 : v41.toInt < (0 : Int) := xlt h47
          have r49 := mf_5 J8
          have u50 : (ps_i s8 1131 5).toInt = (ps_i s 1131 5).toInt := xeq (kp_i K8 5 rfl)
          exact ms_204_91 (σ := σ) (c5 := c5) (c6 := c6) (c7 := c7) k  x1 x2 _ J8 K9 hT hK hC5 hC6 hC7 (show (ps_i s8 1131 8).toInt ≤ (ps_i s8 1131 4).toInt from by omega) (show (ps_i s8 1131 22).toInt = (ps_i s0 1131 22).toInt from by omega) (show 1 ≤ (ps_i s8 1131 5).toInt ∨ (x1.toInt ≠ 0 ∧ x2.toInt = 0 ∧ c5 < 6) ∨ (x1.toInt = 0 ∧ x2.toInt = 0 ∧ c6 < 4) ∨ (x1.toInt = 0 ∧ x2.toInt ≠ 0 ∧ c7 < 8) from by omega)
        · have f51 : (0 : Int) ≤ v41.toInt := xle h47
          have r52 := mf_5 J8
          have u53 : (ps_i s8 1131 5).toInt = (ps_i s 1131 5).toInt := xeq (kp_i K8 5 rfl)
          exact ms_204_82 (σ := σ) (c5 := c5) (c6 := c6) (c7 := c7) k  x1 x2 _ J8 K9 hT hK hC5 hC6 hC7 (show (ps_i s8 1131 8).toInt ≤ (ps_i s8 1131 4).toInt from by omega) (show (ps_i s8 1131 22).toInt = (ps_i s0 1131 22).toInt from by omega) (show (ps_i s8 1131 5).toInt = 0 from by omega) (show (x1.toInt ≠ 0 ∧ x2.toInt = 0 ∧ c5 < 6) ∨ (x1.toInt = 0 ∧ x2.toInt = 0 ∧ c6 < 4) ∨ (x1.toInt = 0 ∧ x2.toInt ≠ 0 ∧ c7 < 8) from by omega)
    · have f54 : (ps_i s8 1131 9).toInt ≠ (2 : Int) := xne h14
      refine ms_196 J8  (fun s55 J55 K55 p55_0 => ?_)
      have K56 := kpt K9 K55 rfl rfl
      have KC := K55
      have hT : TH σ (ps_a s55 1134) (ps_a s55 1135) (ps_a s55 1136) (ps_a s55 1137) (ps_a s55 1138) (ps_a s55 1139) (ps_i s55 1131 22).toInt := by rw [show ps_a s55 1134 = ps_a s8 1134 from (K55.2 1134 rfl).1, show ps_a s55 1135 = ps_a s8 1135 from (K55.2 1135 rfl).1, show ps_a s55 1136 = ps_a s8 1136 from (K55.2 1136 rfl).1, show ps_a s55 1137 = ps_a s8 1137 from (K55.2 1137 rfl).1, show ps_a s55 1138 = ps_a s8 1138 from (K55.2 1138 rfl).1, show ps_a s55 1139 = ps_a s8 1139 from (K55.2 1139 rfl).1, show ps_i s55 1131 22 = ps_i s8 1131 22 from kp_i K55 22 rfl]; exact hT
      have hK : KB (ps_i s55 1131 22).toInt (ps_a s0 1134) (ps_a s0 1135) (ps_a s0 1136) (ps_a s0 1137) (ps_a s0 1138) (ps_a s0 1139) (ps_a s55 1134) (ps_a s55 1135) (ps_a s55 1136) (ps_a s55 1137) (ps_a s55 1138) (ps_a s55 1139) := by rw [show ps_a s55 1134 = ps_a s8 1134 from (K55.2 1134 rfl).1, show ps_a s55 1135 = ps_a s8 1135 from (K55.2 1135 rfl).1, show ps_a s55 1136 = ps_a s8 1136 from (K55.2 1136 rfl).1, show ps_a s55 1137 = ps_a s8 1137 from (K55.2 1137 rfl).1, show ps_a s55 1138 = ps_a s8 1138 from (K55.2 1138 rfl).1, show ps_a s55 1139 = ps_a s8 1139 from (K55.2 1139 rfl).1, show ps_i s55 1131 22 = ps_i s8 1131 22 from kp_i K55 22 rfl]; exact hK
      have hC5 : (ps_a s55 1135 (Int32.toNatClampNeg (ps_i s55 1131 22))).toInt = c5 := by rw [show ps_a s55 1135 = ps_a s8 1135 from (K55.2 1135 rfl).1, show ps_i s55 1131 22 = ps_i s8 1131 22 from kp_i K55 22 rfl]; exact hC5
      have hC6 : (ps_a s55 1136 (Int32.toNatClampNeg (ps_i s55 1131 22))).toInt = c6 := by rw [show ps_a s55 1136 = ps_a s8 1136 from (K55.2 1136 rfl).1, show ps_i s55 1131 22 = ps_i s8 1131 22 from kp_i K55 22 rfl]; exact hC6
      have hC7 : (ps_a s55 1137 (Int32.toNatClampNeg (ps_i s55 1131 22))).toInt = c7 := by rw [show ps_a s55 1137 = ps_a s8 1137 from (K55.2 1137 rfl).1, show ps_i s55 1131 22 = ps_i s8 1131 22 from kp_i K55 22 rfl]; exact hC7
      have p55_0' : 1 ≤ (ps_i s55 1131 5).toInt := p55_0
      have r57 := mf_5 J55
      have r58 := mf_8 J55
      have u59 : (ps_i s55 1131 8).toInt = (ps_i s8 1131 8).toInt := xeq (kp_i K55 8 rfl)
      have r60 := mf_4 J55
      have u61 : (ps_i s55 1131 4).toInt = (ps_i s8 1131 4).toInt := xeq (kp_i K55 4 rfl)
      have r62 := mf_22 J55
      have u63 : (ps_i s55 1131 22).toInt = (ps_i s8 1131 22).toInt := xeq (kp_i K55 22 rfl)
      have r64 := mf_22 J8
      have u65 : (ps_i s8 1131 22).toInt = (ps_i s 1131 22).toInt := xeq (kp_i K8 22 rfl)
      exact ms_204_91 (σ := σ) (c5 := c5) (c6 := c6) (c7 := c7) k  x1 x2 _ J55 K56 hT hK hC5 hC6 hC7 (show (ps_i s55 1131 8).toInt ≤ (ps_i s55 1131 4).toInt from by omega) (show (ps_i s55 1131 22).toInt = (ps_i s0 1131 22).toInt from by omega) (show 1 ≤ (ps_i s55 1131 5).toInt ∨ (x1.toInt ≠ 0 ∧ x2.toInt = 0 ∧ c5 < 6) ∨ (x1.toInt = 0 ∧ x2.toInt = 0 ∧ c6 < 4) ∨ (x1.toInt = 0 ∧ x2.toInt ≠ 0 ∧ c7 < 8) from by omega)
  · have f66 : v5.toInt = (0 : Int) := xeq h6
    have qz66 : 1 ≤ (ps_i s 1131 5).toInt := by omega
    clear p5_0' p5_0
    exact k _ J K (show (ps_i s 1131 8).toInt ≤ (ps_i s 1131 4).toInt from by omega) (Or.inl (show 1 ≤ (ps_i s 1131 5).toInt from by omega)) (hK) (Or.inl (show 1 ≤ (ps_i s 1131 5).toInt from by omega)) ((by omega))

