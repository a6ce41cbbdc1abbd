set_option maxRecDepth 100000
theorem ms_252_178 {x : Nat → Nat → Nat} {t : Int32} {d : Nat} {s0 : ps_S} {σ : mSig} {x1 : Int32} {Q : Option Value → ps_S → Prop} (k : ∀ (s' : ps_S), mJ x t s' → kp [1134, 1149, 1150, 1151, 1157, 1158, 1159, 1160] [34, 50, 51] s0 s' → (PSt σ (ps_a s' 1134) (ps_a s' 1157) x1.toInt) → ((ps_i s' 1131 50).toInt ≤ 0 → PSt σ (ps_a s' 1134) (ps_a s' 1157) (x1.toInt + 1)) → (∀ k : Nat, 21320 ≤ k → ps_a s' 1134 k = ps_a s0 1134 k) → Q none s') (s : ps_S) (J : mJ x t s) (K : kp [1134, 1149, 1150, 1151, 1157, 1158, 1159, 1160] [34, 50, 51] s0 s) (hS : Sg (ps_a s 1135) (ps_a s 1136) (ps_a s 1138) (ps_a s 1139) (ps_i s 1131 21).toInt σ) (hC : SC σ (ps_a s 1134) (ps_a s 1157) (ps_a s 1152) (ps_a s 1153) (ps_a s 1154) (ps_a s 1155) (ps_i s 1131 21).toInt x1.toInt) (hA : As σ (ps_a s 1134) x1.toInt (ps_i s 1131 51).toInt) (hO : OutB (ps_a s0 1134) (ps_a s 1134) x1.toInt) (hM : Md (ps_a s 1149) (ps_i s 1131 34).toInt ([] : List Nat)) (i5_k : 0 ≤ x1.toInt) (i6_k : x1.toInt < 40) (i7_k : (ps_i s 1131 51).toInt = 0) : ps_At (d + 6) 252 178 [(0, .ref 1131), (1, .int x1)] [] s Q := by
  have r1_k := mf_51 J
  refine pg_252_178 (d := d + 5) ?_
  refine ps_nd_i (show pm_in x1 40 = true from xgi (show 0 ≤ x1.toInt from by omega) (show x1.toInt < 40 from by omega)) ?_
  have r2_k : 0 ≤ (ps_a s 1152 (Int32.toNatClampNeg x1)).toInt ∧ (ps_a s 1152 (Int32.toNatClampNeg x1)).toInt ≤ 18 := ma_1152 (i := x1) J (show 0 ≤ x1.toInt from by omega) (show x1.toInt < 40 from by omega)
  refine And.intro (fun h3_k => ?_) (fun h3_k => ?_)
  · have f4_k : (8 : Int) ≤ (ps_a s 1152 (Int32.toNatClampNeg x1)).toInt := xle h3_k
    refine ps_nd_i (show pm_in x1 40 = true from xgi (show 0 ≤ x1.toInt from by omega) (show x1.toInt < 40 from by omega)) ?_
    refine And.intro (fun h5_k => ?_) (fun h5_k => ?_)
    · have f6_k : (ps_a s 1152 (Int32.toNatClampNeg x1)).toInt < (11 : Int) := xlt h5_k
      exact ms_252_219 (x1 := x1) (σ := σ) k   _ J K hS hC hA hO hM (show 0 ≤ x1.toInt from by omega) (show x1.toInt < 40 from by omega) (show (ps_i s 1131 51).toInt = 0 from by omega) (show (ps_a s 1152 (Int32.toNatClampNeg x1)).toInt = 8 ∨ (ps_a s 1152 (Int32.toNatClampNeg x1)).toInt = 9 ∨ (ps_a s 1152 (Int32.toNatClampNeg x1)).toInt = 10 ∨ (ps_a s 1152 (Int32.toNatClampNeg x1)).toInt = 17 ∨ (ps_a s 1152 (Int32.toNatClampNeg x1)).toInt = 18 from by omega)
    · have f7_k : (11 : Int) ≤ (ps_a s 1152 (Int32.toNatClampNeg x1)).toInt := xle h5_k
      refine ps_nd_i (show pm_in x1 40 = true from xgi (show 0 ≤ x1.toInt from by omega) (show x1.toInt < 40 from by omega)) ?_
      refine And.intro (fun h8_k => ?_) (fun h8_k => ?_)
      · have f9_k : (ps_a s 1152 (Int32.toNatClampNeg x1)).toInt ≤ (16 : Int) := xle h8_k
        refine ms_257 J hS hC hA hM (show 0 ≤ x1.toInt from by omega) (show x1.toInt < 40 from by omega) (show (ps_i s 1131 51).toInt ≤ 100 from by omega) (show 11 ≤ (ps_a s 1152 (Int32.toNatClampNeg x1)).toInt from by omega) (show (ps_a s 1152 (Int32.toNatClampNeg x1)).toInt ≤ 16 from by omega) (fun s10 J10 K10 p10_0 p10_1 p10_2 p10_3 p10_4 => ?_)
        have K11 := kpt K K10 rfl rfl
        have KC := K10
        have hS : Sg (ps_a s10 1135) (ps_a s10 1136) (ps_a s10 1138) (ps_a s10 1139) (ps_i s10 1131 21).toInt σ := by rw [show ps_a s10 1135 = ps_a s 1135 from (K10.2 1135 rfl).1, show ps_a s10 1136 = ps_a s 1136 from (K10.2 1136 rfl).1, show ps_a s10 1138 = ps_a s 1138 from (K10.2 1138 rfl).1, show ps_a s10 1139 = ps_a s 1139 from (K10.2 1139 rfl).1, show ps_i s10 1131 21 = ps_i s 1131 21 from kp_i K10 21 rfl]; exact hS
        have p10_2' : (ps_i s 1131 51).toInt ≤ (ps_i s10 1131 51).toInt := p10_2
        have r12_k := mf_51 J10
        have p10_3' : (ps_i s10 1131 51).toInt ≤ (ps_i s 1131 51).toInt + 36 := p10_3
        have hA : As σ (ps_a s10 1134) x1.toInt (ps_i s10 1131 51).toInt := p10_0
        have ho : _ := p10_1
        have hRs : Res σ (ps_a s10 1149) (ps_i s10 1131 34).toInt (ps_i s10 1131 50).toInt := p10_4
        exact ms_252_232 (x1 := x1) (σ := σ) k   _ J10 K11 hS hA (OutB_tr hO ho) ((by rw [show ps_a s10 1157 = ps_a s 1157 from (KC.2 1157 rfl).1]; exact PSt_out (SC_p hC) ho (by omega))) hRs (show 0 ≤ x1.toInt from by omega) (show x1.toInt < 40 from by omega) (show (ps_i s10 1131 51).toInt ≤ 36 from by omega)
      · have f13_k : (16 : Int) < (ps_a s 1152 (Int32.toNatClampNeg x1)).toInt := xlt h8_k
        exact ms_252_219 (x1 := x1) (σ := σ) k   _ J K hS hC hA hO hM (show 0 ≤ x1.toInt from by omega) (show x1.toInt < 40 from by omega) (show (ps_i s 1131 51).toInt = 0 from by omega) (show (ps_a s 1152 (Int32.toNatClampNeg x1)).toInt = 8 ∨ (ps_a s 1152 (Int32.toNatClampNeg x1)).toInt = 9 ∨ (ps_a s 1152 (Int32.toNatClampNeg x1)).toInt = 10 ∨ (ps_a s 1152 (Int32.toNatClampNeg x1)).toInt = 17 ∨ (ps_a s 1152 (Int32.toNatClampNeg x1)).toInt = 18 from by omega)
  · have f14_k : (ps_a s 1152 (Int32.toNatClampNeg x1)).toInt < (8 : Int) := xlt h3_k
    refine ms_253 J hS hC hA hM (show 0 ≤ x1.toInt from by omega) (show x1.toInt < 40 from by omega) (show (ps_i s 1131 51).toInt ≤ 100 from by omega) (show (ps_a s 1152 (Int32.toNatClampNeg x1)).toInt < 8 from by omega) (fun s15 J15 K15 p15_0 p15_1 p15_2 p15_3 p15_4 => ?_)
    have K16 := kpt K K15 rfl rfl
    have KC := K15
    have hS : Sg (ps_a s15 1135) (ps_a s15 1136) (ps_a s15 1138) (ps_a s15 1139) (ps_i s15 1131 21).toInt σ := by rw [show ps_a s15 1135 = ps_a s 1135 from (K15.2 1135 rfl).1, show ps_a s15 1136 = ps_a s 1136 from (K15.2 1136 rfl).1, show ps_a s15 1138 = ps_a s 1138 from (K15.2 1138 rfl).1, show ps_a s15 1139 = ps_a s 1139 from (K15.2 1139 rfl).1, show ps_i s15 1131 21 = ps_i s 1131 21 from kp_i K15 21 rfl]; exact hS
    have p15_2' : (ps_i s 1131 51).toInt ≤ (ps_i s15 1131 51).toInt := p15_2
    have r17_k := mf_51 J15
    have p15_3' : (ps_i s15 1131 51).toInt ≤ (ps_i s 1131 51).toInt + 24 := p15_3
    have hA : As σ (ps_a s15 1134) x1.toInt (ps_i s15 1131 51).toInt := p15_0
    have ho : _ := p15_1
    have hRs : Res σ (ps_a s15 1149) (ps_i s15 1131 34).toInt (ps_i s15 1131 50).toInt := p15_4
    exact ms_252_232 (x1 := x1) (σ := σ) k   _ J15 K16 hS hA (OutB_tr hO ho) ((by rw [show ps_a s15 1157 = ps_a s 1157 from (KC.2 1157 rfl).1]; exact PSt_out (SC_p hC) ho (by omega))) hRs (show 0 ≤ x1.toInt from by omega) (show x1.toInt < 40 from by omega) (show (ps_i s15 1131 51).toInt ≤ 36 from by omega)

