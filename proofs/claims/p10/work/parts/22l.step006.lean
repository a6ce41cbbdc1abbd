set_option maxRecDepth 100000
theorem ms_252_232 {x : Nat → Nat → Nat} {t : Int32} {d : Nat} {s0 : ps_S} {σ : mSig} {x1 : Int32} {Q : Option Value → ps_S → Prop} (k : ∀ (s' : ps_S), mJ x t s' → kp [1134, 1149, 1150, 1151, 1157, 1158, 1159, 1160] [34, 50, 51] s0 s' → (PSt σ (ps_a s' 1134) (ps_a s' 1157) x1.toInt) → ((ps_i s' 1131 50).toInt ≤ 0 → PSt σ (ps_a s' 1134) (ps_a s' 1157) (x1.toInt + 1)) → (∀ k : Nat, 21320 ≤ k → ps_a s' 1134 k = ps_a s0 1134 k) → Q none s') (s : ps_S) (J : mJ x t s) (K : kp [1134, 1149, 1150, 1151, 1157, 1158, 1159, 1160] [34, 50, 51] s0 s) (hS : Sg (ps_a s 1135) (ps_a s 1136) (ps_a s 1138) (ps_a s 1139) (ps_i s 1131 21).toInt σ) (hA : As σ (ps_a s 1134) x1.toInt (ps_i s 1131 51).toInt) (hO : OutB (ps_a s0 1134) (ps_a s 1134) x1.toInt) (hP : PSt σ (ps_a s 1134) (ps_a s 1157) x1.toInt) (hRs : Res σ (ps_a s 1149) (ps_i s 1131 34).toInt (ps_i s 1131 50).toInt) (i5_k : 0 ≤ x1.toInt) (i6_k : x1.toInt < 40) (i7_k : (ps_i s 1131 51).toInt ≤ 36) : ps_At (d + 6) 252 232 [(0, .ref 1131), (1, .int x1)] [] s Q := by
  have r1_k := mf_51 J
  refine pg_252_232 (d := d + 5) ?_
  obtain ⟨ml, hm1, hm2, hm3⟩ := id hRs
  have hMl : Md (ps_a s 1149) (ps_i s 1131 34).toInt (ml) := hm1
  refine And.intro (fun h2_k => ?_) (fun h2_k => ?_)
  · have f3_k : (12 : Int) < (ps_i s 1131 51).toInt := xlt h2_k
    exact ms_252_248 (x1 := x1) (σ := σ) k   _ J K hA hO hP (show 0 ≤ x1.toInt from by omega) (show x1.toInt < 40 from by omega) (show (ps_i s 1131 51).toInt ≤ 36 from by omega)
  · have f4_k : (ps_i s 1131 51).toInt ≤ (12 : Int) := xle h2_k
    refine mt_228 J hS (hm1) ((hm3.imp id (fun z_k => z_k.1))) (fun v5 s5 J5 K5 p5_0 b5 => ?_)
    have K6 := kpt K K5 rfl rfl
    have KC := K5
    have hS : Sg (ps_a s5 1135) (ps_a s5 1136) (ps_a s5 1138) (ps_a s5 1139) (ps_i s5 1131 21).toInt σ := by rw [show ps_a s5 1135 = ps_a s 1135 from (K5.2 1135 rfl).1, show ps_a s5 1136 = ps_a s 1136 from (K5.2 1136 rfl).1, show ps_a s5 1138 = ps_a s 1138 from (K5.2 1138 rfl).1, show ps_a s5 1139 = ps_a s 1139 from (K5.2 1139 rfl).1, show ps_i s5 1131 21 = ps_i s 1131 21 from kp_i K5 21 rfl]; exact hS
    have hA : As σ (ps_a s5 1134) x1.toInt (ps_i s5 1131 51).toInt := by rw [show ps_a s5 1134 = ps_a s 1134 from (K5.2 1134 rfl).1, show ps_i s5 1131 51 = ps_i s 1131 51 from kp_i K5 51 rfl]; exact hA
    have hO : OutB (ps_a s0 1134) (ps_a s5 1134) x1.toInt := by rw [show ps_a s5 1134 = ps_a s 1134 from (K5.2 1134 rfl).1]; exact hO
    have hP : PSt σ (ps_a s5 1134) (ps_a s5 1157) x1.toInt := by rw [show ps_a s5 1134 = ps_a s 1134 from (K5.2 1134 rfl).1, show ps_a s5 1157 = ps_a s 1157 from (K5.2 1157 rfl).1]; exact hP
    have hRs : Res σ (ps_a s5 1149) (ps_i s5 1131 34).toInt (ps_i s5 1131 50).toInt := by rw [show ps_a s5 1149 = ps_a s 1149 from (K5.2 1149 rfl).1, show ps_i s5 1131 34 = ps_i s 1131 34 from kp_i K5 34 rfl, show ps_i s5 1131 50 = ps_i s 1131 50 from kp_i K5 50 rfl]; exact hRs
    have hMl : Md (ps_a s5 1149) (ps_i s5 1131 34).toInt (ml) := by rw [show ps_a s5 1149 = ps_a s 1149 from (K5.2 1149 rfl).1, show ps_i s5 1131 34 = ps_i s 1131 34 from kp_i K5 34 rfl]; exact hMl
    have hv_k : _ := p5_0
    refine And.intro (fun h7_k => ?_) (fun h7_k => ?_)
    · have f8_k : v5.toInt ≠ (0 : Int) := xne h7_k
      have r9_k := mf_51 J5
      have u10 : (ps_i s5 1131 51).toInt = (ps_i s 1131 51).toInt := xeq (kp_i K5 51 rfl)
      exact ms_252_253 (x1 := x1) (σ := σ) k   _ J5 K6 hA hO hP (show 0 ≤ x1.toInt from by omega) (show x1.toInt < 40 from by omega) (show (ps_i s5 1131 51).toInt ≤ 36 from by omega) ((by rcases hv_k with z_k | ⟨z1_k, z2_k⟩; exact absurd z_k (by omega); rcases z2_k with z2_k | z2_k; exact Or.inr ⟨by omega, ml, hMl, z1_k, z2_k⟩; rcases hm3 with z3_k | z3_k; rw [z2_k] at z3_k; cases z3_k; exact Or.inl (by rw [show ps_i s5 1131 50 = ps_i s 1131 50 from kp_i KC 50 rfl]; exact z3_k.2)))
    · have f11_k : v5.toInt = (0 : Int) := xeq h7_k
      have r12_k := mf_51 J5
      have u13 : (ps_i s5 1131 51).toInt = (ps_i s 1131 51).toInt := xeq (kp_i K5 51 rfl)
      exact ms_252_248 (x1 := x1) (σ := σ) k   _ J5 K6 hA hO hP (show 0 ≤ x1.toInt from by omega) (show x1.toInt < 40 from by omega) (show (ps_i s5 1131 51).toInt ≤ 36 from by omega)

