set_option maxRecDepth 100000
theorem ms_252_219 {x : Nat → Nat → Nat} {t : Int32} {d : Nat} {s0 : ps_S} {σ : mSig} {x1 : Int32} {Q : Option Value → ps_S → Prop} (k : ∀ (s' : ps_S), mJ x t s' → kp [1134, 1149, 1150, 1151, 1157, 1158, 1159, 1160] [34, 50, 51] s0 s' → (PSt σ (ps_a s' 1134) (ps_a s' 1157) x1.toInt) → ((ps_i s' 1131 50).toInt ≤ 0 → PSt σ (ps_a s' 1134) (ps_a s' 1157) (x1.toInt + 1)) → (∀ k : Nat, 21320 ≤ k → ps_a s' 1134 k = ps_a s0 1134 k) → Q none s') (s : ps_S) (J : mJ x t s) (K : kp [1134, 1149, 1150, 1151, 1157, 1158, 1159, 1160] [34, 50, 51] s0 s) (hS : Sg (ps_a s 1135) (ps_a s 1136) (ps_a s 1138) (ps_a s 1139) (ps_i s 1131 21).toInt σ) (hC : SC σ (ps_a s 1134) (ps_a s 1157) (ps_a s 1152) (ps_a s 1153) (ps_a s 1154) (ps_a s 1155) (ps_i s 1131 21).toInt x1.toInt) (hA : As σ (ps_a s 1134) x1.toInt (ps_i s 1131 51).toInt) (hO : OutB (ps_a s0 1134) (ps_a s 1134) x1.toInt) (hM : Md (ps_a s 1149) (ps_i s 1131 34).toInt ([] : List Nat)) (i5_k : 0 ≤ x1.toInt) (i6_k : x1.toInt < 40) (i7_k : (ps_i s 1131 51).toInt = 0) (i8_k : (ps_a s 1152 (Int32.toNatClampNeg x1)).toInt = 8 ∨ (ps_a s 1152 (Int32.toNatClampNeg x1)).toInt = 9 ∨ (ps_a s 1152 (Int32.toNatClampNeg x1)).toInt = 10 ∨ (ps_a s 1152 (Int32.toNatClampNeg x1)).toInt = 17 ∨ (ps_a s 1152 (Int32.toNatClampNeg x1)).toInt = 18) : ps_At (d + 6) 252 219 [(0, .ref 1131), (1, .int x1)] [] s Q := by
  have r1_k := mf_51 J
  have r2_k : 0 ≤ (ps_a s 1152 (Int32.toNatClampNeg x1)).toInt ∧ (ps_a s 1152 (Int32.toNatClampNeg x1)).toInt ≤ 18 := ma_1152 (i := x1) J (show 0 ≤ x1.toInt from by omega) (show x1.toInt < 40 from by omega)
  refine pg_252_219 (d := d + 5) ?_
  refine ms_255 J hS hC hA hM (show 0 ≤ x1.toInt from by omega) (show x1.toInt < 40 from by omega) (show (ps_i s 1131 51).toInt ≤ 100 from by omega) (show (ps_a s 1152 (Int32.toNatClampNeg x1)).toInt = 8 ∨ (ps_a s 1152 (Int32.toNatClampNeg x1)).toInt = 9 ∨ (ps_a s 1152 (Int32.toNatClampNeg x1)).toInt = 10 ∨ (ps_a s 1152 (Int32.toNatClampNeg x1)).toInt = 17 ∨ (ps_a s 1152 (Int32.toNatClampNeg x1)).toInt = 18 from by omega) (fun s3 J3 K3 p3_0 p3_1 p3_2 p3_3 p3_4 => ?_)
  have K4 := kpt K K3 rfl rfl
  have KC := K3
  have hS : Sg (ps_a s3 1135) (ps_a s3 1136) (ps_a s3 1138) (ps_a s3 1139) (ps_i s3 1131 21).toInt σ := by rw [show ps_a s3 1135 = ps_a s 1135 from (K3.2 1135 rfl).1, show ps_a s3 1136 = ps_a s 1136 from (K3.2 1136 rfl).1, show ps_a s3 1138 = ps_a s 1138 from (K3.2 1138 rfl).1, show ps_a s3 1139 = ps_a s 1139 from (K3.2 1139 rfl).1, show ps_i s3 1131 21 = ps_i s 1131 21 from kp_i K3 21 rfl]; exact hS
  have p3_2' : (ps_i s 1131 51).toInt ≤ (ps_i s3 1131 51).toInt := p3_2
  have r5_k := mf_51 J3
  have p3_3' : (ps_i s3 1131 51).toInt ≤ (ps_i s 1131 51).toInt + 36 := p3_3
  have hA : As σ (ps_a s3 1134) x1.toInt (ps_i s3 1131 51).toInt := p3_0
  have ho : _ := p3_1
  have hRs : Res σ (ps_a s3 1149) (ps_i s3 1131 34).toInt (ps_i s3 1131 50).toInt := p3_4
  exact ms_252_232 (x1 := x1) (σ := σ) k   _ J3 K4 hS hA (OutB_tr hO ho) ((by rw [show ps_a s3 1157 = ps_a s 1157 from (KC.2 1157 rfl).1]; exact PSt_out (SC_p hC) ho (by omega))) hRs (show 0 ≤ x1.toInt from by omega) (show x1.toInt < 40 from by omega) (show (ps_i s3 1131 51).toInt ≤ 36 from by omega)

