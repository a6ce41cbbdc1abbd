set_option maxRecDepth 100000
theorem ms_204 {x : Nat → Nat → Nat} {t : Int32} {s : ps_S} {d : Nat} {f : ps_S → Prop} (J : mJ x t s) {σ : mSig} {c5 c6 c7 : Int} (hT : TH σ (ps_a s 1134) (ps_a s 1135) (ps_a s 1136) (ps_a s 1137) (ps_a s 1138) (ps_a s 1139) (ps_i s 1131 22).toInt) (hC5 : (ps_a s 1135 (Int32.toNatClampNeg (ps_i s 1131 22))).toInt = c5) (hC6 : (ps_a s 1136 (Int32.toNatClampNeg (ps_i s 1131 22))).toInt = c6) (hC7 : (ps_a s 1137 (Int32.toNatClampNeg (ps_i s 1131 22))).toInt = c7) (q4 : (ps_i s 1131 8).toInt ≤ (ps_i s 1131 4).toInt) (q5 : (ps_i s 1131 5).toInt = 0) (k : ∀ (s' : ps_S), mJ x t s' → kp [1134, 1135, 1136, 1137, 1138, 1139, 1140, 1141, 1142, 1143, 1144, 1145, 1146, 1147, 1148] [5, 6, 7, 8, 9, 10, 11, 23, 29, 30, 31, 32] s s' → ((ps_i s' 1131 8).toInt ≤ (ps_i s' 1131 4).toInt) → (1 ≤ (ps_i s' 1131 5).toInt ∨ ∃ τ, TH τ (ps_a s' 1134) (ps_a s' 1135) (ps_a s' 1136) (ps_a s' 1137) (ps_a s' 1138) (ps_a s' 1139) (ps_i s' 1131 22).toInt) → (KB (ps_i s' 1131 22).toInt (ps_a s 1134) (ps_a s 1135) (ps_a s 1136) (ps_a s 1137) (ps_a s 1138) (ps_a s 1139) (ps_a s' 1134) (ps_a s' 1135) (ps_a s' 1136) (ps_a s' 1137) (ps_a s' 1138) (ps_a s' 1139)) → (1 ≤ (ps_i s' 1131 5).toInt ∨ (ps_a s' 1135 (Int32.toNatClampNeg (ps_i s' 1131 22))).toInt + (ps_a s' 1136 (Int32.toNatClampNeg (ps_i s' 1131 22))).toInt + (ps_a s' 1137 (Int32.toNatClampNeg (ps_i s' 1131 22))).toInt = c5 + c6 + c7 + 1) → (c5 + c6 + c7 ≤ (ps_a s' 1135 (Int32.toNatClampNeg (ps_i s' 1131 22))).toInt + (ps_a s' 1136 (Int32.toNatClampNeg (ps_i s' 1131 22))).toInt + (ps_a s' 1137 (Int32.toNatClampNeg (ps_i s' 1131 22))).toInt) → f s') : ps_Cl (d + 6) 204 [.ref 1131] s (ps_rV f) := by
  have r1 := mf_8 J
  have r2 := mf_4 J
  have r3 := mf_5 J
  have K : kp [1134, 1135, 1136, 1137, 1138, 1139, 1140, 1141, 1142, 1143, 1144, 1145, 1146, 1147, 1148] [5, 6, 7, 8, 9, 10, 11, 23, 29, 30, 31, 32] s s := kp_refl
  refine pg_204_0 (d := d + 5) ?_
  have hK : KB (ps_i s 1131 22).toInt (ps_a s 1134) (ps_a s 1135) (ps_a s 1136) (ps_a s 1137) (ps_a s 1138) (ps_a s 1139) (ps_a s 1134) (ps_a s 1135) (ps_a s 1136) (ps_a s 1137) (ps_a s 1138) (ps_a s 1139) := KB_0
  refine mx_195 J  (fun v4 p4_0 p4_1 p4_2 p4_3 b4 => ?_)
  have p4_0' : 0 ≤ v4.toInt := p4_0
  have p4_1' : v4.toInt ≤ 1 := p4_1
  have w4a : _ := p4_2
  have w4 : _ := p4_3
  refine mx_195 J  (fun v5 p5_0 p5_1 p5_2 p5_3 b5 => ?_)
  have p5_0' : 0 ≤ v5.toInt := p5_0
  have p5_1' : v5.toInt ≤ 1 := p5_1
  have w12 : _ := p5_2
  have w12b : _ := p5_3
  refine ms_203 J  (fun v6 p6_0 p6_1 p6_2 b6 => ?_)
  have p6_0' : 0 ≤ v6.toInt := p6_0
  have p6_1' : v6.toInt ≤ 1 := p6_1
  have hfull : _ := p6_2
  have b22 := mf_22 J
  have r1135 := ma_1135 (i := (ps_i s 1131 22)) J (by omega) (by omega)
  have r1136 := ma_1136 (i := (ps_i s 1131 22)) J (by omega) (by omega)
  have r1137 := ma_1137 (i := (ps_i s 1131 22)) J (by omega) (by omega)
  have hW : (v6).toInt = 1 ∨ (v4.toInt ≠ 0 ∧ v5.toInt = 0 ∧ c5 < 6) ∨ (v4.toInt = 0 ∧ v5.toInt = 0 ∧ c6 < 4) ∨ (v4.toInt = 0 ∧ v5.toInt ≠ 0 ∧ c7 < 8) := by
      by_cases q : (v6).toInt = 0
      · right; rcases hfull q with ⟨⟨z1, z2⟩, z3⟩ | ⟨⟨z1, z2⟩, z3⟩ | ⟨⟨z1, z2⟩, z3⟩
        · have q2 : v5.toInt = 0 := by rcases w12 with w | w; exact w; exact absurd (lgx z2 w.2) (by decide)
          exact Or.inl ⟨by omega, q2, by omega⟩
        · have q2 : v5.toInt = 0 := by rcases w12 with w | w; exact w; exact absurd (lgx z2 w.2) (by decide)
          have q1 : v4.toInt = 0 := by rcases w4a with w | w; exact w; exact absurd (lgx z2 w.2) (by decide)
          exact Or.inr (Or.inl ⟨q1, q2, by omega⟩)
        · have q1 : v4.toInt = 0 := by rcases w4a with w | w; exact w; exact absurd (lgx z2 w.2) (by decide)
          exact Or.inr (Or.inr ⟨q1, by omega, by omega⟩)
      · left; omega
  refine And.intro (fun h7 => ?_) (fun h7 => ?_)
  · have f8 : v6.toInt = (0 : Int) := xeq h7
    have r9 := mf_22 J
    exact ms_204_27 (σ := σ) (c5 := c5) (c6 := c6) (c7 := c7) k  v4 v5 _ J K hT hK hC5 hC6 hC7 (show (ps_i s 1131 8).toInt ≤ (ps_i s 1131 4).toInt from by omega) (show (ps_i s 1131 22).toInt = (ps_i s 1131 22).toInt from by omega) (show 1 ≤ (ps_i s 1131 5).toInt ∨ (v4.toInt ≠ 0 ∧ v5.toInt = 0 ∧ c5 < 6) ∨ (v4.toInt = 0 ∧ v5.toInt = 0 ∧ c6 < 4) ∨ (v4.toInt = 0 ∧ v5.toInt ≠ 0 ∧ c7 < 8) from by omega)
  · have f10 : v6.toInt ≠ (0 : Int) := xne h7
    refine ms_196 J  (fun s11 J11 K11 p11_0 => ?_)
    have K12 := kpt K K11 rfl rfl
    have KC := K11
    have hT : TH σ (ps_a s11 1134) (ps_a s11 1135) (ps_a s11 1136) (ps_a s11 1137) (ps_a s11 1138) (ps_a s11 1139) (ps_i s11 1131 22).toInt := by rw [show ps_a s11 1134 = ps_a s 1134 from (K11.2 1134 rfl).1, show ps_a s11 1135 = ps_a s 1135 from (K11.2 1135 rfl).1, show ps_a s11 1136 = ps_a s 1136 from (K11.2 1136 rfl).1, show ps_a s11 1137 = ps_a s 1137 from (K11.2 1137 rfl).1, show ps_a s11 1138 = ps_a s 1138 from (K11.2 1138 rfl).1, show ps_a s11 1139 = ps_a s 1139 from (K11.2 1139 rfl).1, show ps_i s11 1131 22 = ps_i s 1131 22 from kp_i K11 22 rfl]; exact hT
    have hC5 : (ps_a s11 1135 (Int32.toNatClampNeg (ps_i s11 1131 22))).toInt = c5 := by rw [show ps_a s11 1135 = ps_a s 1135 from (K11.2 1135 rfl).1, show ps_i s11 1131 22 = ps_i s 1131 22 from kp_i K11 22 rfl]; exact hC5
    have hC6 : (ps_a s11 1136 (Int32.toNatClampNeg (ps_i s11 1131 22))).toInt = c6 := by rw [show ps_a s11 1136 = ps_a s 1136 from (K11.2 1136 rfl).1, show ps_i s11 1131 22 = ps_i s 1131 22 from kp_i K11 22 rfl]; exact hC6
    have hC7 : (ps_a s11 1137 (Int32.toNatClampNeg (ps_i s11 1131 22))).toInt = c7 := by rw [show ps_a s11 1137 = ps_a s 1137 from (K11.2 1137 rfl).1, show ps_i s11 1131 22 = ps_i s 1131 22 from kp_i K11 22 rfl]; exact hC7
    have hK : KB (ps_i s11 1131 22).toInt (ps_a s 1134) (ps_a s 1135) (ps_a s 1136) (ps_a s 1137) (ps_a s 1138) (ps_a s 1139) (ps_a s11 1134) (ps_a s11 1135) (ps_a s11 1136) (ps_a s11 1137) (ps_a s11 1138) (ps_a s11 1139) := by rw [show ps_a s11 1134 = ps_a s 1134 from (K11.2 1134 rfl).1, show ps_a s11 1135 = ps_a s 1135 from (K11.2 1135 rfl).1, show ps_a s11 1136 = ps_a s 1136 from (K11.2 1136 rfl).1, show ps_a s11 1137 = ps_a s 1137 from (K11.2 1137 rfl).1, show ps_a s11 1138 = ps_a s 1138 from (K11.2 1138 rfl).1, show ps_a s11 1139 = ps_a s 1139 from (K11.2 1139 rfl).1, show ps_i s11 1131 22 = ps_i s 1131 22 from kp_i K11 22 rfl]; exact hK
    have p11_0' : 1 ≤ (ps_i s11 1131 5).toInt := p11_0
    have r13 := mf_5 J11
    have r14 := mf_8 J11
    have u15 : (ps_i s11 1131 8).toInt = (ps_i s 1131 8).toInt := xeq (kp_i K11 8 rfl)
    have r16 := mf_4 J11
    have u17 : (ps_i s11 1131 4).toInt = (ps_i s 1131 4).toInt := xeq (kp_i K11 4 rfl)
    have r18 := mf_22 J11
    have u19 : (ps_i s11 1131 22).toInt = (ps_i s 1131 22).toInt := xeq (kp_i K11 22 rfl)
    have r20 := mf_22 J
    exact ms_204_27 (σ := σ) (c5 := c5) (c6 := c6) (c7 := c7) k  v4 v5 _ J11 K12 hT hK hC5 hC6 hC7 (show (ps_i s11 1131 8).toInt ≤ (ps_i s11 1131 4).toInt from by omega) (show (ps_i s11 1131 22).toInt = (ps_i s 1131 22).toInt from by omega) (show 1 ≤ (ps_i s11 1131 5).toInt ∨ (v4.toInt ≠ 0 ∧ v5.toInt = 0 ∧ c5 < 6) ∨ (v4.toInt = 0 ∧ v5.toInt = 0 ∧ c6 < 4) ∨ (v4.toInt = 0 ∧ v5.toInt ≠ 0 ∧ c7 < 8) from by omega)

