set_option maxRecDepth 100000
theorem ms_252_248 {x : Nat → Nat → Nat} {t : Int32} {d : Nat} {s0 : ps_S} {σ : mSig} {x1 : Int32} {Q : Option Value → ps_S → Prop} (k : ∀ (s' : ps_S), mJ x t s' → kp [1134, 1149, 1150, 1151, 1157, 1158, 1159, 1160] [34, 50, 51] s0 s' → (PSt σ (ps_a s' 1134) (ps_a s' 1157) x1.toInt) → ((ps_i s' 1131 50).toInt ≤ 0 → PSt σ (ps_a s' 1134) (ps_a s' 1157) (x1.toInt + 1)) → (∀ k : Nat, 21320 ≤ k → ps_a s' 1134 k = ps_a s0 1134 k) → Q none s') (s : ps_S) (J : mJ x t s) (K : kp [1134, 1149, 1150, 1151, 1157, 1158, 1159, 1160] [34, 50, 51] s0 s) (hA : As σ (ps_a s 1134) x1.toInt (ps_i s 1131 51).toInt) (hO : OutB (ps_a s0 1134) (ps_a s 1134) x1.toInt) (hP : PSt σ (ps_a s 1134) (ps_a s 1157) x1.toInt) (i3_k : 0 ≤ x1.toInt) (i4_k : x1.toInt < 40) (i5_k : (ps_i s 1131 51).toInt ≤ 36) : ps_At (d + 6) 252 248 [(0, .ref 1131), (1, .int x1)] [] s Q := by
  have r1_k := mf_51 J
  refine pg_252_248 (d := d + 5) ?_
  refine ms_241 J (show 1 ≤ (5 : Int) from by omega) (show (5 : Int) ≤ 5 from by omega) (fun s2 J2 K2 p2_0 => ?_)
  have K3 := kpt K K2 rfl rfl
  have KC := K2
  have hA : As σ (ps_a s2 1134) x1.toInt (ps_i s2 1131 51).toInt := by rw [show ps_a s2 1134 = ps_a s 1134 from (K2.2 1134 rfl).1, show ps_i s2 1131 51 = ps_i s 1131 51 from kp_i K2 51 rfl]; exact hA
  have hO : OutB (ps_a s0 1134) (ps_a s2 1134) x1.toInt := by rw [show ps_a s2 1134 = ps_a s 1134 from (K2.2 1134 rfl).1]; exact hO
  have hP : PSt σ (ps_a s2 1134) (ps_a s2 1157) x1.toInt := by rw [show ps_a s2 1134 = ps_a s 1134 from (K2.2 1134 rfl).1, show ps_a s2 1157 = ps_a s 1157 from (K2.2 1157 rfl).1]; exact hP
  have p2_0' : 1 ≤ (ps_i s2 1131 50).toInt := p2_0
  have r4_k := mf_50 J2
  have r5_k := mf_51 J2
  have u6 : (ps_i s2 1131 51).toInt = (ps_i s 1131 51).toInt := xeq (kp_i K2 51 rfl)
  exact ms_252_253 (x1 := x1) (σ := σ) k   _ J2 K3 hA hO hP (show 0 ≤ x1.toInt from by omega) (show x1.toInt < 40 from by omega) (show (ps_i s2 1131 51).toInt ≤ 36 from by omega) (Or.inl (show 1 ≤ (ps_i s2 1131 50).toInt from by omega))

