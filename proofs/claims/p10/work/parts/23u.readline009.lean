set_option maxRecDepth 100000
theorem ms_204_271 {x : Nat → Nat → Nat} {t : Int32} {d : Nat} {s0 : ps_S} {σ : mSig} {c5 c6 c7 : Int} {Q : Option Value → ps_S → Prop} (k : ∀ (s' : ps_S), mJ x t s' → kp [1134, 1135, 1136, 1137, 1138, 1139, 1140, 1141, 1142, 1143, 1144, 1145, 1146, 1147, 1148] [5, 6, 7, 8, 9, 10, 11, 23, 29, 30, 31, 32] s0 s' → ((ps_i s' 1131 8).toInt ≤ (ps_i s' 1131 4).toInt) → (1 ≤ (ps_i s' 1131 5).toInt ∨ ∃ τ, TH τ (ps_a s' 1134) (ps_a s' 1135) (ps_a s' 1136) (ps_a s' 1137) (ps_a s' 1138) (ps_a s' 1139) (ps_i s' 1131 22).toInt) → (KB (ps_i s' 1131 22).toInt (ps_a s0 1134) (ps_a s0 1135) (ps_a s0 1136) (ps_a s0 1137) (ps_a s0 1138) (ps_a s0 1139) (ps_a s' 1134) (ps_a s' 1135) (ps_a s' 1136) (ps_a s' 1137) (ps_a s' 1138) (ps_a s' 1139)) → (1 ≤ (ps_i s' 1131 5).toInt ∨ (ps_a s' 1135 (Int32.toNatClampNeg (ps_i s' 1131 22))).toInt + (ps_a s' 1136 (Int32.toNatClampNeg (ps_i s' 1131 22))).toInt + (ps_a s' 1137 (Int32.toNatClampNeg (ps_i s' 1131 22))).toInt = c5 + c6 + c7 + 1) → (c5 + c6 + c7 ≤ (ps_a s' 1135 (Int32.toNatClampNeg (ps_i s' 1131 22))).toInt + (ps_a s' 1136 (Int32.toNatClampNeg (ps_i s' 1131 22))).toInt + (ps_a s' 1137 (Int32.toNatClampNeg (ps_i s' 1131 22))).toInt) → Q none s') (x1 : Int32) (l3 : Int64) (s : ps_S) (J : mJ x t s) (K : kp [1134, 1135, 1136, 1137, 1138, 1139, 1140, 1141, 1142, 1143, 1144, 1145, 1146, 1147, 1148] [5, 6, 7, 8, 9, 10, 11, 23, 29, 30, 31, 32] s0 s) (hT : TH σ (ps_a s 1134) (ps_a s 1135) (ps_a s 1136) (ps_a s 1137) (ps_a s 1138) (ps_a s 1139) (ps_i s 1131 22).toInt) (hK : KB (ps_i s 1131 22).toInt (ps_a s0 1134) (ps_a s0 1135) (ps_a s0 1136) (ps_a s0 1137) (ps_a s0 1138) (ps_a s0 1139) (ps_a s 1134) (ps_a s 1135) (ps_a s 1136) (ps_a s 1137) (ps_a s 1138) (ps_a s 1139)) (hC5 : (ps_a s 1135 (Int32.toNatClampNeg (ps_i s 1131 22))).toInt = c5) (hC6 : (ps_a s 1136 (Int32.toNatClampNeg (ps_i s 1131 22))).toInt = c6) (hC7 : (ps_a s 1137 (Int32.toNatClampNeg (ps_i s 1131 22))).toInt = c7) (i5 : (ps_i s 1131 8).toInt ≤ (ps_i s 1131 4).toInt) (i6 : (ps_i s 1131 22).toInt = (ps_i s0 1131 22).toInt) (i7 : (x1.toInt ≠ 0 ∧ c5 < 6) ∨ (x1.toInt = 0 ∧ c6 < 4)) (hN : 1 ≤ (ps_i s 1131 5).toInt ∨ ((x1.toInt ≠ 0 → 0 ≤ (ps_a s 1138 (6 * (ps_i s 1131 22).toInt.toNat + c5.toNat)).toInt ∧ (ps_a s 1138 (6 * (ps_i s 1131 22).toInt.toNat + c5.toNat)).toInt ≤ 2) ∧ (x1.toInt = 0 → 0 ≤ (ps_a s 1139 (4 * (ps_i s 1131 22).toInt.toNat + c6.toNat)).toInt ∧ (ps_a s 1139 (4 * (ps_i s 1131 22).toInt.toNat + c6.toNat)).toInt ≤ 2))) : ps_At (d + 6) 204 271 [(0, .ref 1131), (1, .int x1), (3, .long l3)] [] s Q := by
  have r1 := mf_8 J
  have r2 := mf_4 J
  have r3 := mf_22 J
  refine pg_204_271 (d := d + 5) ?_
  refine ms_192 J  (fun v4 p4_0 b4 => ?_)
  have p4_0' : (v4.toInt = 0 ∧ 1 ≤ (ps_i s 1131 5).toInt) ∨ (v4.toInt = 1 ∧ (ps_i s 1131 5).toInt = 0) := p4_0
  have r5 := mf_5 J
  refine And.intro (fun h6 => ?_) (fun h6 => ?_)
  · have f7 : v4.toInt = (0 : Int) := xeq h6
    have qz7 : 1 ≤ (ps_i s 1131 5).toInt := by omega
    clear p4_0' p4_0
    exact ms_204_282 (σ := σ) (c5 := c5) (c6 := c6) (c7 := c7) k  x1 l3 _ J K hT hK hC5 hC6 hC7 (show (ps_i s 1131 8).toInt ≤ (ps_i s 1131 4).toInt from by omega) (show (ps_i s 1131 22).toInt = (ps_i s0 1131 22).toInt from by omega) (show (x1.toInt ≠ 0 ∧ c5 < 6) ∨ (x1.toInt = 0 ∧ c6 < 4) from by omega) hN
  · have f8 : v4.toInt ≠ (0 : Int) := xne h6
    have qz8 : (ps_i s 1131 5).toInt = 0 := by omega
    clear p4_0' p4_0
    refine ms_194 J (show (ps_i s 1131 8).toInt ≤ (ps_i s 1131 4).toInt from by omega) (fun s9 J9 K9 p9_0 => ?_)
    have K10 := kpt K K9 rfl rfl
    have KC := K9
    have hT : TH σ (ps_a s9 1134) (ps_a s9 1135) (ps_a s9 1136) (ps_a s9 1137) (ps_a s9 1138) (ps_a s9 1139) (ps_i s9 1131 22).toInt := by rw [show ps_a s9 1134 = ps_a s 1134 from (K9.2 1134 rfl).1, show ps_a s9 1135 = ps_a s 1135 from (K9.2 1135 rfl).1, show ps_a s9 1136 = ps_a s 1136 from (K9.2 1136 rfl).1, show ps_a s9 1137 = ps_a s 1137 from (K9.2 1137 rfl).1, show ps_a s9 1138 = ps_a s 1138 from (K9.2 1138 rfl).1, show ps_a s9 1139 = ps_a s 1139 from (K9.2 1139 rfl).1, show ps_i s9 1131 22 = ps_i s 1131 22 from kp_i K9 22 rfl]; exact hT
    have hK : KB (ps_i s9 1131 22).toInt (ps_a s0 1134) (ps_a s0 1135) (ps_a s0 1136) (ps_a s0 1137) (ps_a s0 1138) (ps_a s0 1139) (ps_a s9 1134) (ps_a s9 1135) (ps_a s9 1136) (ps_a s9 1137) (ps_a s9 1138) (ps_a s9 1139) := by rw [show ps_a s9 1134 = ps_a s 1134 from (K9.2 1134 rfl).1, show ps_a s9 1135 = ps_a s 1135 from (K9.2 1135 rfl).1, show ps_a s9 1136 = ps_a s 1136 from (K9.2 1136 rfl).1, show ps_a s9 1137 = ps_a s 1137 from (K9.2 1137 rfl).1, show ps_a s9 1138 = ps_a s 1138 from (K9.2 1138 rfl).1, show ps_a s9 1139 = ps_a s 1139 from (K9.2 1139 rfl).1, show ps_i s9 1131 22 = ps_i s 1131 22 from kp_i K9 22 rfl]; exact hK
    have hC5 : (ps_a s9 1135 (Int32.toNatClampNeg (ps_i s9 1131 22))).toInt = c5 := by rw [show ps_a s9 1135 = ps_a s 1135 from (K9.2 1135 rfl).1, show ps_i s9 1131 22 = ps_i s 1131 22 from kp_i K9 22 rfl]; exact hC5
    have hC6 : (ps_a s9 1136 (Int32.toNatClampNeg (ps_i s9 1131 22))).toInt = c6 := by rw [show ps_a s9 1136 = ps_a s 1136 from (K9.2 1136 rfl).1, show ps_i s9 1131 22 = ps_i s 1131 22 from kp_i K9 22 rfl]; exact hC6
    have hC7 : (ps_a s9 1137 (Int32.toNatClampNeg (ps_i s9 1131 22))).toInt = c7 := by rw [show ps_a s9 1137 = ps_a s 1137 from (K9.2 1137 rfl).1, show ps_i s9 1131 22 = ps_i s 1131 22 from kp_i K9 22 rfl]; exact hC7
    have hN : 1 ≤ (ps_i s9 1131 5).toInt ∨ ((x1.toInt ≠ 0 → 0 ≤ (ps_a s9 1138 (6 * (ps_i s9 1131 22).toInt.toNat + c5.toNat)).toInt ∧ (ps_a s9 1138 (6 * (ps_i s9 1131 22).toInt.toNat + c5.toNat)).toInt ≤ 2) ∧ (x1.toInt = 0 → 0 ≤ (ps_a s9 1139 (4 * (ps_i s9 1131 22).toInt.toNat + c6.toNat)).toInt ∧ (ps_a s9 1139 (4 * (ps_i s9 1131 22).toInt.toNat + c6.toNat)).toInt ≤ 2)) := by rw [show ps_a s9 1138 = ps_a s 1138 from (K9.2 1138 rfl).1, show ps_a s9 1139 = ps_a s 1139 from (K9.2 1139 rfl).1, show ps_i s9 1131 5 = ps_i s 1131 5 from kp_i K9 5 rfl, show ps_i s9 1131 22 = ps_i s 1131 22 from kp_i K9 22 rfl]; exact hN
    have p9_0' : (ps_i s9 1131 8).toInt ≤ (ps_i s9 1131 4).toInt := p9_0
    have r11 := mf_8 J9
    have r12 := mf_4 J9
    have u13 : (ps_i s9 1131 4).toInt = (ps_i s 1131 4).toInt := xeq (kp_i K9 4 rfl)
    have r14 := mf_22 J9
    have u15 : (ps_i s9 1131 22).toInt = (ps_i s 1131 22).toInt := xeq (kp_i K9 22 rfl)
    exact ms_204_282 (σ := σ) (c5 := c5) (c6 := c6) (c7 := c7) k  x1 l3 _ J9 K10 hT hK hC5 hC6 hC7 (show (ps_i s9 1131 8).toInt ≤ (ps_i s9 1131 4).toInt from by omega) (show (ps_i s9 1131 22).toInt = (ps_i s0 1131 22).toInt from by omega) (show (x1.toInt ≠ 0 ∧ c5 < 6) ∨ (x1.toInt = 0 ∧ c6 < 4) from by omega) hN

