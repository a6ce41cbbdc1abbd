set_option maxRecDepth 100000
-- ProofBenchModel.takesBound(I)V
theorem pg_257_0 {d : Nat} {x1 : Int32} {s : ps_S} {Q : Option Value → ps_S → Prop} (h :
  ps_Cl d 244 [.ref 1131, .int x1] s (ps_rI (fun v1 s1 =>
    ps_nd (pm_in x1 40) (((ps_a s1 1152 (Int32.toNatClampNeg x1)) = 11 →
      ps_At (d + 1) 257 67 [(0, .ref 1131), (1, .int x1), (2, .int v1), (5, .int 0)] [] s1 Q) ∧
    ((ps_a s1 1152 (Int32.toNatClampNeg x1)) ≠ 11 →
      ((ps_a s1 1152 (Int32.toNatClampNeg x1)) = 12 →
      ps_Cl d 247 [.ref 1131, .int v1] s1 (ps_rI (fun v2 s2 =>
        (v2 = 4 →
          ps_Cl d 231 [.ref 1131, .int v1, .int ((24108 : Int32) + ((41 : Int32) * x1)), .int (-1)] s2 (ps_rV (fun s3 =>
            ps_At (d + 1) 257 281 [(0, .ref 1131), (1, .int x1)] [] s3 Q))) ∧
        (v2 ≠ 4 →
          ps_Cl d 241 [.ref 1131, .int 2] s2 (ps_rV (fun s4 =>
            ps_At (d + 1) 257 281 [(0, .ref 1131), (1, .int x1)] [] s4 Q)))))) ∧
    ((ps_a s1 1152 (Int32.toNatClampNeg x1)) ≠ 12 →
      ((ps_a s1 1152 (Int32.toNatClampNeg x1)) = 13 →
      ps_Cl d 247 [.ref 1131, .int ((22468 : Int32) + ((41 : Int32) * x1))] s1 (ps_rI (fun v5 s5 =>
        (v5 ≠ 5 →
          ps_At (d + 1) 257 177 [(0, .ref 1131), (1, .int x1), (2, .int v1), (4, .int ((22468 : Int32) + ((41 : Int32) * x1)))] [] s5 Q) ∧
        (v5 = 5 →
          ps_Cl d 231 [.ref 1131, .int ((22468 : Int32) + ((41 : Int32) * x1)), .int ((24108 : Int32) + ((41 : Int32) * x1)), .int (-1)] s5 (ps_rV (fun s6 =>
            ps_At (d + 1) 257 177 [(0, .ref 1131), (1, .int x1), (2, .int v1), (4, .int ((22468 : Int32) + ((41 : Int32) * x1)))] [] s6 Q)))))) ∧
    ((ps_a s1 1152 (Int32.toNatClampNeg x1)) ≠ 13 →
      ((ps_a s1 1152 (Int32.toNatClampNeg x1)) = 14 →
      ps_Cl d 258 [.ref 1131, .int x1] s1 (ps_rV (fun s7 =>
        Q none s7))) ∧
    ((ps_a s1 1152 (Int32.toNatClampNeg x1)) ≠ 14 →
      ((ps_a s1 1152 (Int32.toNatClampNeg x1)) = 15 →
      ps_Cl d 225 [.ref 1131, .int 6] s1 (ps_rV (fun s8 =>
        ps_Cl d 227 [.ref 1131, .int ((24108 : Int32) + ((41 : Int32) * x1))] s8 (ps_rV (fun s9 =>
          ps_Cl d 227 [.ref 1131, .int ((24108 : Int32) + ((41 : Int32) * x1))] s9 (ps_rV (fun s10 =>
            Q none s10))))))) ∧
    ((ps_a s1 1152 (Int32.toNatClampNeg x1)) ≠ 15 →
      ps_Cl d 247 [.ref 1131, .int v1] s1 (ps_rI (fun v11 s11 =>
      (v11 = 6 →
        ps_Cl d 245 [.ref 1131, .int x1] s11 (ps_rI (fun v12 s12 =>
          ps_Cl d 260 [.ref 1131, .int v1, .int v12, .int ((22468 : Int32) + ((41 : Int32) * x1))] s12 (ps_rI (fun v13 s13 =>
            (v13 ≠ 0 →
              ps_At (d + 1) 257 275 [(0, .ref 1131), (1, .int x1), (4, .int ((22468 : Int32) + ((41 : Int32) * x1)))] [] s13 Q) ∧
            (v13 = 0 →
              ps_Cl d 241 [.ref 1131, .int 4] s13 (ps_rV (fun s14 =>
                ps_At (d + 1) 257 275 [(0, .ref 1131), (1, .int x1), (4, .int ((22468 : Int32) + ((41 : Int32) * x1)))] [] s14 Q)))))))) ∧
      (v11 ≠ 6 →
        ps_Cl d 241 [.ref 1131, .int 2] s11 (ps_rV (fun s15 =>
          ps_At (d + 1) 257 275 [(0, .ref 1131), (1, .int x1), (4, .int ((22468 : Int32) + ((41 : Int32) * x1)))] [] s15 Q)))))))))))))) : ps_At (d + 1) 257 0 [(0, .ref 1131), (1, .int x1)] [] s Q :=
  ps_wp_at (stops := [(67, [0, 1, 2, 5]), (177, [0, 1, 2, 4]), (195, [0, 1, 4]), (200, [0, 1, 4]), (275, [0, 1, 4]), (281, [0, 1])]) (n := 84) h rfl

theorem pg_257_67 {d : Nat} {x1 : Int32} {x2 : Int32} {x5 : Int32} {s : ps_S} {Q : Option Value → ps_S → Prop} (h :
  ps_nd (pm_in x1 40) (ps_nd (pm_in (ps_a s 1153 (Int32.toNatClampNeg x1)) 41) (((ps_a s 1157 (Int32.toNatClampNeg (ps_a s 1153 (Int32.toNatClampNeg x1)))) ≤ x5 →
    ps_nd (pm_in x1 40) (ps_Cl d 232 [.ref 1131, .int x2, .int (ps_a s 1156 (Int32.toNatClampNeg x1))] s (ps_rV (fun s1 =>
      ps_At (d + 1) 257 281 [(0, .ref 1131), (1, .int x1)] [] s1 Q)))) ∧
  (x5 < (ps_a s 1157 (Int32.toNatClampNeg (ps_a s 1153 (Int32.toNatClampNeg x1)))) →
    ps_nd (pm_in x1 40) (ps_Cl d 243 [.int (ps_a s 1153 (Int32.toNatClampNeg x1)), .int x5] s (ps_rI (fun v2 s2 =>
      ps_nd (pm_in x1 40) (ps_Cl d 223 [.ref 1131, .int v2, .int (ps_a s2 1156 (Int32.toNatClampNeg x1))] s2 (ps_rI (fun v3 s3 =>
        (v3 = 0 →
          ps_At (d + 1) 257 67 [(0, .ref 1131), (1, .int x1), (2, .int x2), (5, .int (x5 + 1))] [] s3 Q) ∧
        (v3 ≠ 0 →
          ps_Cl d 241 [.ref 1131, .int 3] s3 (ps_rV (fun s4 =>
            ps_At (d + 1) 257 67 [(0, .ref 1131), (1, .int x1), (2, .int x2), (5, .int (x5 + 1))] [] s4 Q))))))))))))) : ps_At (d + 1) 257 67 [(0, .ref 1131), (1, .int x1), (2, .int x2), (5, .int x5)] [] s Q :=
  ps_wp_at (stops := [(67, [0, 1, 2, 5]), (177, [0, 1, 2, 4]), (195, [0, 1, 4]), (200, [0, 1, 4]), (275, [0, 1, 4]), (281, [0, 1])]) (n := 39) h rfl

theorem pg_257_177 {d : Nat} {x1 : Int32} {x2 : Int32} {x4 : Int32} {s : ps_S} {Q : Option Value → ps_S → Prop} (h :
  ps_Cl d 247 [.ref 1131, .int x4] s (ps_rI (fun v1 s1 =>
    (v1 ≠ 5 →
      ps_At (d + 1) 257 195 [(0, .ref 1131), (1, .int x1), (4, .int x4)] [] s1 Q) ∧
    (v1 = 5 →
      ps_Cl d 230 [.ref 1131, .int x2] s1 (ps_rI (fun v2 s2 =>
        (v2 ≠ 0 →
          ps_At (d + 1) 257 200 [(0, .ref 1131), (1, .int x1), (4, .int x4)] [] s2 Q) ∧
        (v2 = 0 →
          ps_At (d + 1) 257 195 [(0, .ref 1131), (1, .int x1), (4, .int x4)] [] s2 Q))))))) : ps_At (d + 1) 257 177 [(0, .ref 1131), (1, .int x1), (2, .int x2), (4, .int x4)] [] s Q :=
  ps_wp_at (stops := [(67, [0, 1, 2, 5]), (177, [0, 1, 2, 4]), (195, [0, 1, 4]), (200, [0, 1, 4]), (275, [0, 1, 4]), (281, [0, 1])]) (n := 11) h rfl

theorem pg_257_195 {d : Nat} {x1 : Int32} {x4 : Int32} {s : ps_S} {Q : Option Value → ps_S → Prop} (h :
  ps_Cl d 241 [.ref 1131, .int 4] s (ps_rV (fun s1 =>
    ps_At (d + 1) 257 200 [(0, .ref 1131), (1, .int x1), (4, .int x4)] [] s1 Q))) : ps_At (d + 1) 257 195 [(0, .ref 1131), (1, .int x1), (4, .int x4)] [] s Q :=
  ps_wp_at (stops := [(67, [0, 1, 2, 5]), (177, [0, 1, 2, 4]), (195, [0, 1, 4]), (200, [0, 1, 4]), (275, [0, 1, 4]), (281, [0, 1])]) (n := 5) h rfl

theorem pg_257_200 {d : Nat} {x1 : Int32} {x4 : Int32} {s : ps_S} {Q : Option Value → ps_S → Prop} (h :
  ps_Cl d 227 [.ref 1131, .int x4] (ps_ui s 1131 34 0) (ps_rV (fun s1 =>
    ps_At (d + 1) 257 281 [(0, .ref 1131), (1, .int x1)] [] s1 Q))) : ps_At (d + 1) 257 200 [(0, .ref 1131), (1, .int x1), (4, .int x4)] [] s Q :=
  ps_wp_at (stops := [(67, [0, 1, 2, 5]), (177, [0, 1, 2, 4]), (195, [0, 1, 4]), (200, [0, 1, 4]), (275, [0, 1, 4]), (281, [0, 1])]) (n := 9) h rfl

theorem pg_257_275 {d : Nat} {x1 : Int32} {x4 : Int32} {s : ps_S} {Q : Option Value → ps_S → Prop} (h :
  ps_Cl d 227 [.ref 1131, .int x4] s (ps_rV (fun s1 =>
    ps_At (d + 1) 257 281 [(0, .ref 1131), (1, .int x1)] [] s1 Q))) : ps_At (d + 1) 257 275 [(0, .ref 1131), (1, .int x1), (4, .int x4)] [] s Q :=
  ps_wp_at (stops := [(67, [0, 1, 2, 5]), (177, [0, 1, 2, 4]), (195, [0, 1, 4]), (200, [0, 1, 4]), (275, [0, 1, 4]), (281, [0, 1])]) (n := 5) h rfl

theorem pg_257_281 {d : Nat} {x1 : Int32} {s : ps_S} {Q : Option Value → ps_S → Prop} (h :
  ps_nd (pm_in x1 40) (ps_Cl d 249 [.ref 1131, .int x1, .int (ps_a s 1153 (Int32.toNatClampNeg x1)), .int 0] s (ps_rV (fun s1 =>
    ps_nd (pm_in x1 40) (((ps_a s1 1152 (Int32.toNatClampNeg x1)) ≠ 16 →
      Q none s1) ∧
    ((ps_a s1 1152 (Int32.toNatClampNeg x1)) = 16 →
      ps_nd (pm_in x1 40) (ps_Cl d 249 [.ref 1131, .int x1, .int (ps_a s1 1154 (Int32.toNatClampNeg x1)), .int 0] s1 (ps_rV (fun s2 =>
        Q none s2))))))))) : ps_At (d + 1) 257 281 [(0, .ref 1131), (1, .int x1)] [] s Q :=
  ps_wp_at (stops := [(67, [0, 1, 2, 5]), (177, [0, 1, 2, 4]), (195, [0, 1, 4]), (200, [0, 1, 4]), (275, [0, 1, 4]), (281, [0, 1])]) (n := 26) h rfl

theorem ms_257_281 {x : Nat → Nat → Nat} {t : Int32} {d : Nat} {s0 : ps_S} {σ : mSig} {x1 : Int32} {Q : Option Value → ps_S → Prop} (k : ∀ (s' : ps_S), mJ x t s' → kp [1134, 1149, 1150] [34, 50, 51] s0 s' → (As σ (ps_a s' 1134) x1.toInt (ps_i s' 1131 51).toInt) → (OutB (ps_a s0 1134) (ps_a s' 1134) x1.toInt) → ((ps_i s0 1131 51).toInt ≤ (ps_i s' 1131 51).toInt) → ((ps_i s' 1131 51).toInt ≤ (ps_i s0 1131 51).toInt + 36) → (Res σ (ps_a s' 1149) (ps_i s' 1131 34).toInt (ps_i s' 1131 50).toInt) → Q none s') (s : ps_S) (J : mJ x t s) (K : kp [1134, 1149, 1150] [34, 50, 51] s0 s) (hS : Sg (ps_a s 1135) (ps_a s 1136) (ps_a s 1138) (ps_a s 1139) (ps_i s 1131 21).toInt σ) (hC : SC σ (ps_a s 1134) (ps_a s 1157) (ps_a s 1152) (ps_a s 1153) (ps_a s 1154) (ps_a s 1155) (ps_i s 1131 21).toInt x1.toInt) (hA : As σ (ps_a s 1134) x1.toInt (ps_i s 1131 51).toInt) (hO : OutB (ps_a s0 1134) (ps_a s 1134) x1.toInt) (i4_k : 0 ≤ x1.toInt) (i5_k : x1.toInt < 40) (i6_k : (ps_i s0 1131 51).toInt ≤ 100) (i7_k : (ps_i s 1131 51).toInt = (ps_i s0 1131 51).toInt) (i8_k : 11 ≤ (ps_a s 1152 (Int32.toNatClampNeg x1)).toInt) (i9_k : (ps_a s 1152 (Int32.toNatClampNeg x1)).toInt ≤ 16) (i10_k : (ps_a s 1152 (Int32.toNatClampNeg x1)).toInt ≠ 14) (i11_k : (ps_a s 1152 (Int32.toNatClampNeg x1)).toInt ≠ 15) (hRs : Res σ (ps_a s 1149) (ps_i s 1131 34).toInt (ps_i s 1131 50).toInt) : ps_At (d + 5) 257 281 [(0, .ref 1131), (1, .int x1)] [] s Q := by
  have r1_k := mf_51 J
  have r2_k : 0 ≤ (ps_a s 1152 (Int32.toNatClampNeg x1)).toInt ∧ (ps_a s 1152 (Int32.toNatClampNeg x1)).toInt ≤ 18 := ma_1152 (i := x1) J (show 0 ≤ x1.toInt from by omega) (show x1.toInt < 40 from by omega)
  refine pg_257_281 (d := d + 4) ?_
  have q1_k := SC_l1 hC rfl ⟨by omega, by omega, by omega, by omega⟩
  have g0 := SC_g0 hC rfl
  refine ps_nd_i (show pm_in x1 40 = true from xgi (show 0 ≤ x1.toInt from by omega) (show x1.toInt < 40 from by omega)) ?_
  have r3_k : -1 ≤ (ps_a s 1153 (Int32.toNatClampNeg x1)).toInt ∧ (ps_a s 1153 (Int32.toNatClampNeg x1)).toInt ≤ 9999 := ma_1153 (i := x1) J (show 0 ≤ x1.toInt from by omega) (show x1.toInt < 40 from by omega)
  refine ms_249 J hA ((SC_p hC)) (show 0 ≤ x1.toInt from by omega) (show x1.toInt < 40 from by omega) (show 0 ≤ (ps_a s 1153 (Int32.toNatClampNeg x1)).toInt from by omega) (show (ps_a s 1153 (Int32.toNatClampNeg x1)).toInt < x1.toInt from by omega) (show (ps_i s 1131 51).toInt ≤ 800 from by omega) (fun s4 J4 K4 p4_0 p4_1 p4_2 p4_3 => ?_)
  have K5 := kpt K K4 rfl rfl
  have KC := K4
  have hS : Sg (ps_a s4 1135) (ps_a s4 1136) (ps_a s4 1138) (ps_a s4 1139) (ps_i s4 1131 21).toInt σ := by rw [show ps_a s4 1135 = ps_a s 1135 from (K4.2 1135 rfl).1, show ps_a s4 1136 = ps_a s 1136 from (K4.2 1136 rfl).1, show ps_a s4 1138 = ps_a s 1138 from (K4.2 1138 rfl).1, show ps_a s4 1139 = ps_a s 1139 from (K4.2 1139 rfl).1, show ps_i s4 1131 21 = ps_i s 1131 21 from kp_i K4 21 rfl]; exact hS
  have hRs : Res σ (ps_a s4 1149) (ps_i s4 1131 34).toInt (ps_i s4 1131 50).toInt := by rw [show ps_a s4 1149 = ps_a s 1149 from (K4.2 1149 rfl).1, show ps_i s4 1131 34 = ps_i s 1131 34 from kp_i K4 34 rfl, show ps_i s4 1131 50 = ps_i s 1131 50 from kp_i K4 50 rfl]; exact hRs
  have p4_2' : (ps_i s 1131 51).toInt ≤ (ps_i s4 1131 51).toInt := p4_2
  have r6_k := mf_51 J4
  have p4_3' : (ps_i s4 1131 51).toInt ≤ (ps_i s 1131 51).toInt + 12 := p4_3
  have hA : As σ (ps_a s4 1134) x1.toInt (ps_i s4 1131 51).toInt := p4_0
  have ho : _ := p4_1
  have hO := OutB_tr hO ho
  have hC : SC σ (ps_a s4 1134) (ps_a s4 1157) (ps_a s4 1152) (ps_a s4 1153) (ps_a s4 1154) (ps_a s4 1155) (ps_i s4 1131 21).toInt x1.toInt := by rw [show ps_a s4 1157 = ps_a s 1157 from (KC.2 1157 rfl).1, show ps_a s4 1152 = ps_a s 1152 from (KC.2 1152 rfl).1, show ps_a s4 1153 = ps_a s 1153 from (KC.2 1153 rfl).1, show ps_a s4 1154 = ps_a s 1154 from (KC.2 1154 rfl).1, show ps_a s4 1155 = ps_a s 1155 from (KC.2 1155 rfl).1, show ps_i s4 1131 21 = ps_i s 1131 21 from kp_i KC 21 rfl]; exact SC_out hC ho
  refine ps_nd_i (show pm_in x1 40 = true from xgi (show 0 ≤ x1.toInt from by omega) (show x1.toInt < 40 from by omega)) ?_
  have r7_k : 0 ≤ (ps_a s4 1152 (Int32.toNatClampNeg x1)).toInt ∧ (ps_a s4 1152 (Int32.toNatClampNeg x1)).toInt ≤ 18 := ma_1152 (i := x1) J4 (show 0 ≤ x1.toInt from by omega) (show x1.toInt < 40 from by omega)
  have u8 : (ps_a s4 1152 (Int32.toNatClampNeg x1)).toInt = (ps_a s 1152 (Int32.toNatClampNeg x1)).toInt := xeq (kp_a K4 1152 rfl _)
  refine And.intro (fun h9_k => ?_) (fun h9_k => ?_)
  · have f10_k : (ps_a s4 1152 (Int32.toNatClampNeg x1)).toInt ≠ (16 : Int) := xne h9_k
    exact k _ J4 K5 hA ((by first | exact hO | exact OutB_tr hO ho)) (show (ps_i s0 1131 51).toInt ≤ (ps_i s4 1131 51).toInt from by omega) (show (ps_i s4 1131 51).toInt ≤ (ps_i s0 1131 51).toInt + 36 from by omega) hRs
  · have f11_k : (ps_a s4 1152 (Int32.toNatClampNeg x1)).toInt = (16 : Int) := xeq h9_k
    have q2_k := SC_l2 hC rfl (by omega)
    refine ps_nd_i (show pm_in x1 40 = true from xgi (show 0 ≤ x1.toInt from by omega) (show x1.toInt < 40 from by omega)) ?_
    have r12_k : 0 ≤ (ps_a s4 1154 (Int32.toNatClampNeg x1)).toInt ∧ (ps_a s4 1154 (Int32.toNatClampNeg x1)).toInt ≤ 9999 := ma_1154 (i := x1) J4 (show 0 ≤ x1.toInt from by omega) (show x1.toInt < 40 from by omega)
    have u13 : (ps_a s4 1154 (Int32.toNatClampNeg x1)).toInt = (ps_a s 1154 (Int32.toNatClampNeg x1)).toInt := xeq (kp_a K4 1154 rfl _)
    have r14_k : 0 ≤ (ps_a s 1154 (Int32.toNatClampNeg x1)).toInt ∧ (ps_a s 1154 (Int32.toNatClampNeg x1)).toInt ≤ 9999 := ma_1154 (i := x1) J (show 0 ≤ x1.toInt from by omega) (show x1.toInt < 40 from by omega)
    refine ms_249 J4 hA ((SC_p hC)) (show 0 ≤ x1.toInt from by omega) (show x1.toInt < 40 from by omega) (show 0 ≤ (ps_a s4 1154 (Int32.toNatClampNeg x1)).toInt from by omega) (show (ps_a s4 1154 (Int32.toNatClampNeg x1)).toInt < x1.toInt from by omega) (show (ps_i s4 1131 51).toInt ≤ 800 from by omega) (fun s15 J15 K15 p15_0 p15_1 p15_2 p15_3 => ?_)
    have K16 := kpt K5 K15 rfl rfl
    have KC := K15
    have hS : Sg (ps_a s15 1135) (ps_a s15 1136) (ps_a s15 1138) (ps_a s15 1139) (ps_i s15 1131 21).toInt σ := by rw [show ps_a s15 1135 = ps_a s4 1135 from (K15.2 1135 rfl).1, show ps_a s15 1136 = ps_a s4 1136 from (K15.2 1136 rfl).1, show ps_a s15 1138 = ps_a s4 1138 from (K15.2 1138 rfl).1, show ps_a s15 1139 = ps_a s4 1139 from (K15.2 1139 rfl).1, show ps_i s15 1131 21 = ps_i s4 1131 21 from kp_i K15 21 rfl]; exact hS
    have hRs : Res σ (ps_a s15 1149) (ps_i s15 1131 34).toInt (ps_i s15 1131 50).toInt := by rw [show ps_a s15 1149 = ps_a s4 1149 from (K15.2 1149 rfl).1, show ps_i s15 1131 34 = ps_i s4 1131 34 from kp_i K15 34 rfl, show ps_i s15 1131 50 = ps_i s4 1131 50 from kp_i K15 50 rfl]; exact hRs
    have p15_2' : (ps_i s4 1131 51).toInt ≤ (ps_i s15 1131 51).toInt := p15_2
    have r17_k := mf_51 J15
    have p15_3' : (ps_i s15 1131 51).toInt ≤ (ps_i s4 1131 51).toInt + 12 := p15_3
    have hA : As σ (ps_a s15 1134) x1.toInt (ps_i s15 1131 51).toInt := p15_0
    have ho : _ := p15_1
    exact k _ J15 K16 hA ((by first | exact hO | exact OutB_tr hO ho)) (show (ps_i s0 1131 51).toInt ≤ (ps_i s15 1131 51).toInt from by omega) (show (ps_i s15 1131 51).toInt ≤ (ps_i s0 1131 51).toInt + 36 from by omega) hRs

theorem ms_257_67 {x : Nat → Nat → Nat} {t : Int32} {d : Nat} {s0 : ps_S} {σ : mSig} {x1 : Int32} {Q : Option Value → ps_S → Prop} (k : ∀ (s' : ps_S), mJ x t s' → kp [1134, 1149, 1150] [34, 50, 51] s0 s' → (As σ (ps_a s' 1134) x1.toInt (ps_i s' 1131 51).toInt) → (OutB (ps_a s0 1134) (ps_a s' 1134) x1.toInt) → ((ps_i s0 1131 51).toInt ≤ (ps_i s' 1131 51).toInt) → ((ps_i s' 1131 51).toInt ≤ (ps_i s0 1131 51).toInt + 36) → (Res σ (ps_a s' 1149) (ps_i s' 1131 34).toInt (ps_i s' 1131 50).toInt) → Q none s') : ∀ (n : Nat) (x2 : Int32) (x5 : Int32) (s : ps_S), (mJ x t s) → (kp [1134, 1149, 1150] [34, 50, 51] s0 s) → (Sg (ps_a s 1135) (ps_a s 1136) (ps_a s 1138) (ps_a s 1139) (ps_i s 1131 21).toInt σ) → (SC σ (ps_a s 1134) (ps_a s 1157) (ps_a s 1152) (ps_a s 1153) (ps_a s 1154) (ps_a s 1155) (ps_i s 1131 21).toInt x1.toInt) → (As σ (ps_a s 1134) x1.toInt (ps_i s 1131 51).toInt) → (OutB (ps_a s0 1134) (ps_a s 1134) x1.toInt) → (Md (ps_a s 1149) (ps_i s 1131 34).toInt ([] : List Nat)) → (0 ≤ x1.toInt) → (x1.toInt < 40) → ((ps_i s0 1131 51).toInt ≤ 100) → ((ps_i s 1131 51).toInt = (ps_i s0 1131 51).toInt) → ((ps_a s 1152 (Int32.toNatClampNeg x1)).toInt = 11) → (x2.toInt = 41 * (ps_a s 1153 (Int32.toNatClampNeg x1)).toInt) → (0 ≤ x5.toInt) → (x5.toInt ≤ 12) → 20 - x5.toInt ≤ (n : Int) → ps_At (d + 5) 257 67 [(0, .ref 1131), (1, .int x1), (2, .int x2), (5, .int x5)] [] s Q := by
  refine xstr (fun n ih => ?_)
  intro x2 x5 s J K hS hC hA hO hM i5_k i6_k i7_k i8_k i9_k i10_k i11_k i12_k hm
  have r1_k := mf_51 J
  have r2_k : 0 ≤ (ps_a s 1152 (Int32.toNatClampNeg x1)).toInt ∧ (ps_a s 1152 (Int32.toNatClampNeg x1)).toInt ≤ 18 := ma_1152 (i := x1) J (show 0 ≤ x1.toInt from by omega) (show x1.toInt < 40 from by omega)
  have r3_k : -1 ≤ (ps_a s 1153 (Int32.toNatClampNeg x1)).toInt ∧ (ps_a s 1153 (Int32.toNatClampNeg x1)).toInt ≤ 9999 := ma_1153 (i := x1) J (show 0 ≤ x1.toInt from by omega) (show x1.toInt < 40 from by omega)
  refine pg_257_67 (d := d + 4) ?_
  have q1_k := SC_l1 hC rfl ⟨by omega, by omega, by omega, by omega⟩
  have hga := ma_1153 (i := x1) J (by omega) (by omega)
  have g0 := SC_g0 hC rfl
  refine ps_nd_i (show pm_in x1 40 = true from xgi (show 0 ≤ x1.toInt from by omega) (show x1.toInt < 40 from by omega)) ?_
  refine ps_nd_i (show pm_in (ps_a s 1153 (Int32.toNatClampNeg x1)) 41 = true from xgi (show 0 ≤ (ps_a s 1153 (Int32.toNatClampNeg x1)).toInt from by omega) (show (ps_a s 1153 (Int32.toNatClampNeg x1)).toInt < 41 from by omega)) ?_
  have r4_k : 0 ≤ (ps_a s 1157 (Int32.toNatClampNeg (ps_a s 1153 (Int32.toNatClampNeg x1)))).toInt ∧ (ps_a s 1157 (Int32.toNatClampNeg (ps_a s 1153 (Int32.toNatClampNeg x1)))).toInt ≤ 12 := ma_1157 (i := (ps_a s 1153 (Int32.toNatClampNeg x1))) J (show 0 ≤ (ps_a s 1153 (Int32.toNatClampNeg x1)).toInt from by omega) (show (ps_a s 1153 (Int32.toNatClampNeg x1)).toInt < 41 from by omega)
  refine And.intro (fun h5_k => ?_) (fun h5_k => ?_)
  · have f6_k : (ps_a s 1157 (Int32.toNatClampNeg (ps_a s 1153 (Int32.toNatClampNeg x1)))).toInt ≤ x5.toInt := xle h5_k
    obtain ⟨l, hl1, hl2⟩ := SC_1i hC rfl ⟨by omega, by omega, by omega, by omega⟩
    have hl1 : Rw (ps_a s 1134) (x2).toInt l := by rw [show (x2).toInt = 41 * (ps_a s 1153 (Int32.toNatClampNeg x1)).toInt from by omega]; exact hl1
    have hlen0 := hl1.2.2.2.1
    have w1 := hl1.1
    have w2 := hl1.2.1
    have w3 := hl1.2.2.1
    refine ps_nd_i (show pm_in x1 40 = true from xgi (show 0 ≤ x1.toInt from by omega) (show x1.toInt < 40 from by omega)) ?_
    have r7_k : 0 ≤ (ps_a s 1156 (Int32.toNatClampNeg x1)).toInt ∧ (ps_a s 1156 (Int32.toNatClampNeg x1)).toInt ≤ 11 := ma_1156 (i := x1) J (show 0 ≤ x1.toInt from by omega) (show x1.toInt < 40 from by omega)
    refine ms_232 J hS (hl1) (hM) ((by decide)) ((show ws σ l [true] from wf_ws hl2)) ((wf_29 hl2 hlen0)) (show 0 ≤ (ps_a s 1156 (Int32.toNatClampNeg x1)).toInt from by omega) (show (ps_a s 1156 (Int32.toNatClampNeg x1)).toInt ≤ 11 from by omega) (fun s8 J8 K8 p8_0 => ?_)
    have K9 := kpt K K8 rfl rfl
    have KC := K8
    have hS : Sg (ps_a s8 1135) (ps_a s8 1136) (ps_a s8 1138) (ps_a s8 1139) (ps_i s8 1131 21).toInt σ := by rw [show ps_a s8 1135 = ps_a s 1135 from (K8.2 1135 rfl).1, show ps_a s8 1136 = ps_a s 1136 from (K8.2 1136 rfl).1, show ps_a s8 1138 = ps_a s 1138 from (K8.2 1138 rfl).1, show ps_a s8 1139 = ps_a s 1139 from (K8.2 1139 rfl).1, show ps_i s8 1131 21 = ps_i s 1131 21 from kp_i K8 21 rfl]; exact hS
    have hC : SC σ (ps_a s8 1134) (ps_a s8 1157) (ps_a s8 1152) (ps_a s8 1153) (ps_a s8 1154) (ps_a s8 1155) (ps_i s8 1131 21).toInt x1.toInt := by rw [show ps_a s8 1134 = ps_a s 1134 from (K8.2 1134 rfl).1, show ps_a s8 1157 = ps_a s 1157 from (K8.2 1157 rfl).1, show ps_a s8 1152 = ps_a s 1152 from (K8.2 1152 rfl).1, show ps_a s8 1153 = ps_a s 1153 from (K8.2 1153 rfl).1, show ps_a s8 1154 = ps_a s 1154 from (K8.2 1154 rfl).1, show ps_a s8 1155 = ps_a s 1155 from (K8.2 1155 rfl).1, show ps_i s8 1131 21 = ps_i s 1131 21 from kp_i K8 21 rfl]; exact hC
    have hA : As σ (ps_a s8 1134) x1.toInt (ps_i s8 1131 51).toInt := by rw [show ps_a s8 1134 = ps_a s 1134 from (K8.2 1134 rfl).1, show ps_i s8 1131 51 = ps_i s 1131 51 from kp_i K8 51 rfl]; exact hA
    have hO : OutB (ps_a s0 1134) (ps_a s8 1134) x1.toInt := by rw [show ps_a s8 1134 = ps_a s 1134 from (K8.2 1134 rfl).1]; exact hO
    have hG : _ := p8_0
    have r10_k := mf_51 J8
    have u11 : (ps_i s8 1131 51).toInt = (ps_i s 1131 51).toInt := xeq (kp_i K8 51 rfl)
    have r12_k : 0 ≤ (ps_a s8 1152 (Int32.toNatClampNeg x1)).toInt ∧ (ps_a s8 1152 (Int32.toNatClampNeg x1)).toInt ≤ 18 := ma_1152 (i := x1) J8 (show 0 ≤ x1.toInt from by omega) (show x1.toInt < 40 from by omega)
    have u13 : (ps_a s8 1152 (Int32.toNatClampNeg x1)).toInt = (ps_a s 1152 (Int32.toNatClampNeg x1)).toInt := xeq (kp_a K8 1152 rfl _)
    exact ms_257_281 (x1 := x1) (σ := σ) k   _ J8 K9 hS hC hA hO (show 0 ≤ x1.toInt from by omega) (show x1.toInt < 40 from by omega) (show (ps_i s0 1131 51).toInt ≤ 100 from by omega) (show (ps_i s8 1131 51).toInt = (ps_i s0 1131 51).toInt from by omega) (show 11 ≤ (ps_a s8 1152 (Int32.toNatClampNeg x1)).toInt from by omega) (show (ps_a s8 1152 (Int32.toNatClampNeg x1)).toInt ≤ 16 from by omega) (show (ps_a s8 1152 (Int32.toNatClampNeg x1)).toInt ≠ 14 from by omega) (show (ps_a s8 1152 (Int32.toNatClampNeg x1)).toInt ≠ 15 from by omega) ((by obtain ⟨m, g1, g2, g3⟩ := hG; exact ⟨_, g3, by simp only [List.length_append, List.length_cons, List.length_nil]; omega, Or.inl (show ws σ (4 :: m) [true] from ws_c (W' := []) (kS_f1 (Or.inl rfl)) (rp_ws (Sg_σ hS) g2 (wf_ws hl2)))⟩))
  · have f14_k : x5.toInt < (ps_a s 1157 (Int32.toNatClampNeg (ps_a s 1153 (Int32.toNatClampNeg x1)))).toInt := xlt h5_k
    refine ps_nd_i (show pm_in x1 40 = true from xgi (show 0 ≤ x1.toInt from by omega) (show x1.toInt < 40 from by omega)) ?_
    refine pg_243_0 ?_
    have a15_k : ((12 : Int32) * (ps_a s 1153 (Int32.toNatClampNeg x1))).toInt = (12 : Int) * (ps_a s 1153 (Int32.toNatClampNeg x1)).toInt := xIm (show -2147483648 ≤ (12 : Int) * (ps_a s 1153 (Int32.toNatClampNeg x1)).toInt from by omega) (show (12 : Int) * (ps_a s 1153 (Int32.toNatClampNeg x1)).toInt < 2147483648 from by omega)
    have a16_k : (((12 : Int32) * (ps_a s 1153 (Int32.toNatClampNeg x1))) + x5).toInt = ((12 : Int32) * (ps_a s 1153 (Int32.toNatClampNeg x1))).toInt + x5.toInt := xIa (show -2147483648 ≤ ((12 : Int32) * (ps_a s 1153 (Int32.toNatClampNeg x1))).toInt + x5.toInt from by omega) (show ((12 : Int32) * (ps_a s 1153 (Int32.toNatClampNeg x1))).toInt + x5.toInt < 2147483648 from by omega)
    have a17_k : ((41 : Int32) * (((12 : Int32) * (ps_a s 1153 (Int32.toNatClampNeg x1))) + x5)).toInt = (41 : Int) * (((12 : Int32) * (ps_a s 1153 (Int32.toNatClampNeg x1))) + x5).toInt := xIm (show -2147483648 ≤ (41 : Int) * (((12 : Int32) * (ps_a s 1153 (Int32.toNatClampNeg x1))) + x5).toInt from by omega) (show (41 : Int) * (((12 : Int32) * (ps_a s 1153 (Int32.toNatClampNeg x1))) + x5).toInt < 2147483648 from by omega)
    have a18_k : ((1640 : Int32) + ((41 : Int32) * (((12 : Int32) * (ps_a s 1153 (Int32.toNatClampNeg x1))) + x5))).toInt = (1640 : Int) + ((41 : Int32) * (((12 : Int32) * (ps_a s 1153 (Int32.toNatClampNeg x1))) + x5)).toInt := xIa (show -2147483648 ≤ (1640 : Int) + ((41 : Int32) * (((12 : Int32) * (ps_a s 1153 (Int32.toNatClampNeg x1))) + x5)).toInt from by omega) (show (1640 : Int) + ((41 : Int32) * (((12 : Int32) * (ps_a s 1153 (Int32.toNatClampNeg x1))) + x5)).toInt < 2147483648 from by omega)
    obtain ⟨lr, hr1, hr2⟩ : Fm σ (ps_a s 1134) ((1640 : Int32) + ((41 : Int32) * (((12 : Int32) * (ps_a s 1153 (Int32.toNatClampNeg x1))) + x5))).toInt := by rw [show ((1640 : Int32) + ((41 : Int32) * (((12 : Int32) * (ps_a s 1153 (Int32.toNatClampNeg x1))) + x5))).toInt = 1640 + 41 * (12 * (((ps_a s 1153 (Int32.toNatClampNeg x1)).toInt.toNat : Nat) : Int) + ((x5.toInt.toNat : Nat) : Int)) from by omega]; exact ((SC_p hC) ((ps_a s 1153 (Int32.toNatClampNeg x1)).toInt).toNat (by omega)).2 (x5.toInt).toNat (by show ((x5.toInt.toNat : Nat) : Int) < (ps_a s 1157 (Int32.toNatClampNeg (ps_a s 1153 (Int32.toNatClampNeg x1)))).toInt; omega) (by omega)
    refine ps_nd_i (show pm_in x1 40 = true from xgi (show 0 ≤ x1.toInt from by omega) (show x1.toInt < 40 from by omega)) ?_
    have r19_k : 0 ≤ (ps_a s 1156 (Int32.toNatClampNeg x1)).toInt ∧ (ps_a s 1156 (Int32.toNatClampNeg x1)).toInt ≤ 11 := ma_1156 (i := x1) J (show 0 ≤ x1.toInt from by omega) (show x1.toInt < 40 from by omega)
    refine ms_223 J (hr1) (show 0 ≤ (ps_a s 1156 (Int32.toNatClampNeg x1)).toInt from by omega) (show (ps_a s 1156 (Int32.toNatClampNeg x1)).toInt ≤ 11 from by omega) (fun v20 p20_0 b20 => ?_)
    refine And.intro (fun h21_k => ?_) (fun h21_k => ?_)
    · have f22_k : v20.toInt = (0 : Int) := xeq h21_k
      have a23_k : (x5 + 1).toInt = x5.toInt + (1 : Int) := xIa (show -2147483648 ≤ x5.toInt + (1 : Int) from by omega) (show x5.toInt + (1 : Int) < 2147483648 from by omega)
      exact ih (n - 1) (show n - 1 < n from by omega) x2 (x5 + 1) _ J K hS hC hA hO hM (show 0 ≤ x1.toInt from by omega) (show x1.toInt < 40 from by omega) (show (ps_i s0 1131 51).toInt ≤ 100 from by omega) (show (ps_i s 1131 51).toInt = (ps_i s0 1131 51).toInt from by omega) (show (ps_a s 1152 (Int32.toNatClampNeg x1)).toInt = 11 from by omega) (show x2.toInt = 41 * (ps_a s 1153 (Int32.toNatClampNeg x1)).toInt from by omega) (show 0 ≤ (x5 + 1).toInt from by omega) (show (x5 + 1).toInt ≤ 12 from by omega) (show 20 - (x5 + 1).toInt ≤ ((n - 1 : Nat) : Int) from by omega)
    · have f24_k : v20.toInt ≠ (0 : Int) := xne h21_k
      refine ms_241 J (show 1 ≤ (3 : Int) from by omega) (show (3 : Int) ≤ 5 from by omega) (fun s25 J25 K25 p25_0 => ?_)
      have K26 := kpt K K25 rfl rfl
      have KC := K25
      have hS : Sg (ps_a s25 1135) (ps_a s25 1136) (ps_a s25 1138) (ps_a s25 1139) (ps_i s25 1131 21).toInt σ := by rw [show ps_a s25 1135 = ps_a s 1135 from (K25.2 1135 rfl).1, show ps_a s25 1136 = ps_a s 1136 from (K25.2 1136 rfl).1, show ps_a s25 1138 = ps_a s 1138 from (K25.2 1138 rfl).1, show ps_a s25 1139 = ps_a s 1139 from (K25.2 1139 rfl).1, show ps_i s25 1131 21 = ps_i s 1131 21 from kp_i K25 21 rfl]; exact hS
      have hC : SC σ (ps_a s25 1134) (ps_a s25 1157) (ps_a s25 1152) (ps_a s25 1153) (ps_a s25 1154) (ps_a s25 1155) (ps_i s25 1131 21).toInt x1.toInt := by rw [show ps_a s25 1134 = ps_a s 1134 from (K25.2 1134 rfl).1, show ps_a s25 1157 = ps_a s 1157 from (K25.2 1157 rfl).1, show ps_a s25 1152 = ps_a s 1152 from (K25.2 1152 rfl).1, show ps_a s25 1153 = ps_a s 1153 from (K25.2 1153 rfl).1, show ps_a s25 1154 = ps_a s 1154 from (K25.2 1154 rfl).1, show ps_a s25 1155 = ps_a s 1155 from (K25.2 1155 rfl).1, show ps_i s25 1131 21 = ps_i s 1131 21 from kp_i K25 21 rfl]; exact hC
      have hA : As σ (ps_a s25 1134) x1.toInt (ps_i s25 1131 51).toInt := by rw [show ps_a s25 1134 = ps_a s 1134 from (K25.2 1134 rfl).1, show ps_i s25 1131 51 = ps_i s 1131 51 from kp_i K25 51 rfl]; exact hA
      have hO : OutB (ps_a s0 1134) (ps_a s25 1134) x1.toInt := by rw [show ps_a s25 1134 = ps_a s 1134 from (K25.2 1134 rfl).1]; exact hO
      have hM : Md (ps_a s25 1149) (ps_i s25 1131 34).toInt ([] : List Nat) := by rw [show ps_a s25 1149 = ps_a s 1149 from (K25.2 1149 rfl).1, show ps_i s25 1131 34 = ps_i s 1131 34 from kp_i K25 34 rfl]; exact hM
      have p25_0' : 1 ≤ (ps_i s25 1131 50).toInt := p25_0
      have r27_k := mf_50 J25
      have a28_k : (x5 + 1).toInt = x5.toInt + (1 : Int) := xIa (show -2147483648 ≤ x5.toInt + (1 : Int) from by omega) (show x5.toInt + (1 : Int) < 2147483648 from by omega)
      have r29_k := mf_51 J25
      have u30 : (ps_i s25 1131 51).toInt = (ps_i s 1131 51).toInt := xeq (kp_i K25 51 rfl)
      have r31_k : 0 ≤ (ps_a s25 1152 (Int32.toNatClampNeg x1)).toInt ∧ (ps_a s25 1152 (Int32.toNatClampNeg x1)).toInt ≤ 18 := ma_1152 (i := x1) J25 (show 0 ≤ x1.toInt from by omega) (show x1.toInt < 40 from by omega)
      have u32 : (ps_a s25 1152 (Int32.toNatClampNeg x1)).toInt = (ps_a s 1152 (Int32.toNatClampNeg x1)).toInt := xeq (kp_a K25 1152 rfl _)
      have r33_k : -1 ≤ (ps_a s25 1153 (Int32.toNatClampNeg x1)).toInt ∧ (ps_a s25 1153 (Int32.toNatClampNeg x1)).toInt ≤ 9999 := ma_1153 (i := x1) J25 (show 0 ≤ x1.toInt from by omega) (show x1.toInt < 40 from by omega)
      have u34 : (ps_a s25 1153 (Int32.toNatClampNeg x1)).toInt = (ps_a s 1153 (Int32.toNatClampNeg x1)).toInt := xeq (kp_a K25 1153 rfl _)
      exact ih (n - 1) (show n - 1 < n from by omega) x2 (x5 + 1) _ J25 K26 hS hC hA hO hM (show 0 ≤ x1.toInt from by omega) (show x1.toInt < 40 from by omega) (show (ps_i s0 1131 51).toInt ≤ 100 from by omega) (show (ps_i s25 1131 51).toInt = (ps_i s0 1131 51).toInt from by omega) (show (ps_a s25 1152 (Int32.toNatClampNeg x1)).toInt = 11 from by omega) (show x2.toInt = 41 * (ps_a s25 1153 (Int32.toNatClampNeg x1)).toInt from by omega) (show 0 ≤ (x5 + 1).toInt from by omega) (show (x5 + 1).toInt ≤ 12 from by omega) (show 20 - (x5 + 1).toInt ≤ ((n - 1 : Nat) : Int) from by omega)

theorem ms_257_200 {x : Nat → Nat → Nat} {t : Int32} {d : Nat} {s0 : ps_S} {σ : mSig} {x1 : Int32} {Q : Option Value → ps_S → Prop} (k : ∀ (s' : ps_S), mJ x t s' → kp [1134, 1149, 1150] [34, 50, 51] s0 s' → (As σ (ps_a s' 1134) x1.toInt (ps_i s' 1131 51).toInt) → (OutB (ps_a s0 1134) (ps_a s' 1134) x1.toInt) → ((ps_i s0 1131 51).toInt ≤ (ps_i s' 1131 51).toInt) → ((ps_i s' 1131 51).toInt ≤ (ps_i s0 1131 51).toInt + 36) → (Res σ (ps_a s' 1149) (ps_i s' 1131 34).toInt (ps_i s' 1131 50).toInt) → Q none s') (x4 : Int32) (s : ps_S) (J : mJ x t s) (K : kp [1134, 1149, 1150] [34, 50, 51] s0 s) (hS : Sg (ps_a s 1135) (ps_a s 1136) (ps_a s 1138) (ps_a s 1139) (ps_i s 1131 21).toInt σ) (hC : SC σ (ps_a s 1134) (ps_a s 1157) (ps_a s 1152) (ps_a s 1153) (ps_a s 1154) (ps_a s 1155) (ps_i s 1131 21).toInt x1.toInt) (hA : As σ (ps_a s 1134) x1.toInt (ps_i s 1131 51).toInt) (hO : OutB (ps_a s0 1134) (ps_a s 1134) x1.toInt) (i4_k : 0 ≤ x1.toInt) (i5_k : x1.toInt < 40) (i6_k : (ps_i s0 1131 51).toInt ≤ 100) (i7_k : (ps_i s 1131 51).toInt = (ps_i s0 1131 51).toInt) (i8_k : (ps_a s 1152 (Int32.toNatClampNeg x1)).toInt = 13) (i9_k : x4.toInt = 22468 + 41 * x1.toInt) : ps_At (d + 5) 257 200 [(0, .ref 1131), (1, .int x1), (4, .int x4)] [] s Q := by
  have r1_k := mf_51 J
  have r2_k : 0 ≤ (ps_a s 1152 (Int32.toNatClampNeg x1)).toInt ∧ (ps_a s 1152 (Int32.toNatClampNeg x1)).toInt ≤ 18 := ma_1152 (i := x1) J (show 0 ≤ x1.toInt from by omega) (show x1.toInt < 40 from by omega)
  refine pg_257_200 (d := d + 4) ?_
  have J3 := mwi_34 (v := (0 : Int32)) J (show 0 ≤ (0 : Int) from by omega) (show (0 : Int) ≤ 100000 from by omega)
  have K4 := kpi K (q := 34) (v := (0 : Int32)) rfl
  have hM : Md (ps_a (ps_ui s 1131 34 0) 1149) (ps_i (ps_ui s 1131 34 0) 1131 34).toInt ([] : List Nat) := Md_nil rfl
  obtain ⟨l, hl1, hl2⟩ := SC_f (j := x4) hC rfl (by omega) (by omega)
  have hlen0 := hl1.2.2.2.1
  refine ms_227 J3 (hl1) (hM) ((by rw [List.length_nil]; omega)) (fun s5 J5 K5 p5_0 => ?_)
  have K6 := kpt K4 K5 rfl rfl
  have KC := K5
  have hS : Sg (ps_a s5 1135) (ps_a s5 1136) (ps_a s5 1138) (ps_a s5 1139) (ps_i s5 1131 21).toInt σ := by rw [show ps_a s5 1135 = ps_a (ps_ui s 1131 34 0) 1135 from (K5.2 1135 rfl).1, show ps_a s5 1136 = ps_a (ps_ui s 1131 34 0) 1136 from (K5.2 1136 rfl).1, show ps_a s5 1138 = ps_a (ps_ui s 1131 34 0) 1138 from (K5.2 1138 rfl).1, show ps_a s5 1139 = ps_a (ps_ui s 1131 34 0) 1139 from (K5.2 1139 rfl).1, show ps_i s5 1131 21 = ps_i (ps_ui s 1131 34 0) 1131 21 from kp_i K5 21 rfl]; exact hS
  have hC : SC σ (ps_a s5 1134) (ps_a s5 1157) (ps_a s5 1152) (ps_a s5 1153) (ps_a s5 1154) (ps_a s5 1155) (ps_i s5 1131 21).toInt x1.toInt := by rw [show ps_a s5 1134 = ps_a (ps_ui s 1131 34 0) 1134 from (K5.2 1134 rfl).1, show ps_a s5 1157 = ps_a (ps_ui s 1131 34 0) 1157 from (K5.2 1157 rfl).1, show ps_a s5 1152 = ps_a (ps_ui s 1131 34 0) 1152 from (K5.2 1152 rfl).1, show ps_a s5 1153 = ps_a (ps_ui s 1131 34 0) 1153 from (K5.2 1153 rfl).1, show ps_a s5 1154 = ps_a (ps_ui s 1131 34 0) 1154 from (K5.2 1154 rfl).1, show ps_a s5 1155 = ps_a (ps_ui s 1131 34 0) 1155 from (K5.2 1155 rfl).1, show ps_i s5 1131 21 = ps_i (ps_ui s 1131 34 0) 1131 21 from kp_i K5 21 rfl]; exact hC
  have hA : As σ (ps_a s5 1134) x1.toInt (ps_i s5 1131 51).toInt := by rw [show ps_a s5 1134 = ps_a (ps_ui s 1131 34 0) 1134 from (K5.2 1134 rfl).1, show ps_i s5 1131 51 = ps_i (ps_ui s 1131 34 0) 1131 51 from kp_i K5 51 rfl]; exact hA
  have hO : OutB (ps_a s0 1134) (ps_a s5 1134) x1.toInt := by rw [show ps_a s5 1134 = ps_a (ps_ui s 1131 34 0) 1134 from (K5.2 1134 rfl).1]; exact hO
  have hM1 : _ := p5_0
  have r7_k := mf_51 J5
  have u8 : (ps_i s5 1131 51).toInt = (ps_i s 1131 51).toInt := xeq (kp_i K5 51 rfl)
  have r9_k : 0 ≤ (ps_a s5 1152 (Int32.toNatClampNeg x1)).toInt ∧ (ps_a s5 1152 (Int32.toNatClampNeg x1)).toInt ≤ 18 := ma_1152 (i := x1) J5 (show 0 ≤ x1.toInt from by omega) (show x1.toInt < 40 from by omega)
  have u10 : (ps_a s5 1152 (Int32.toNatClampNeg x1)).toInt = (ps_a s 1152 (Int32.toNatClampNeg x1)).toInt := xeq (kp_a K5 1152 rfl _)
  exact ms_257_281 (x1 := x1) (σ := σ) k   _ J5 K6 hS hC hA hO (show 0 ≤ x1.toInt from by omega) (show x1.toInt < 40 from by omega) (show (ps_i s0 1131 51).toInt ≤ 100 from by omega) (show (ps_i s5 1131 51).toInt = (ps_i s0 1131 51).toInt from by omega) (show 11 ≤ (ps_a s5 1152 (Int32.toNatClampNeg x1)).toInt from by omega) (show (ps_a s5 1152 (Int32.toNatClampNeg x1)).toInt ≤ 16 from by omega) (show (ps_a s5 1152 (Int32.toNatClampNeg x1)).toInt ≠ 14 from by omega) (show (ps_a s5 1152 (Int32.toNatClampNeg x1)).toInt ≠ 15 from by omega) (⟨_, hM1, by rw [List.nil_append]; omega, Or.inl (wf_ws hl2)⟩)

theorem ms_257_195 {x : Nat → Nat → Nat} {t : Int32} {d : Nat} {s0 : ps_S} {σ : mSig} {x1 : Int32} {Q : Option Value → ps_S → Prop} (k : ∀ (s' : ps_S), mJ x t s' → kp [1134, 1149, 1150] [34, 50, 51] s0 s' → (As σ (ps_a s' 1134) x1.toInt (ps_i s' 1131 51).toInt) → (OutB (ps_a s0 1134) (ps_a s' 1134) x1.toInt) → ((ps_i s0 1131 51).toInt ≤ (ps_i s' 1131 51).toInt) → ((ps_i s' 1131 51).toInt ≤ (ps_i s0 1131 51).toInt + 36) → (Res σ (ps_a s' 1149) (ps_i s' 1131 34).toInt (ps_i s' 1131 50).toInt) → Q none s') (x4 : Int32) (s : ps_S) (J : mJ x t s) (K : kp [1134, 1149, 1150] [34, 50, 51] s0 s) (hS : Sg (ps_a s 1135) (ps_a s 1136) (ps_a s 1138) (ps_a s 1139) (ps_i s 1131 21).toInt σ) (hC : SC σ (ps_a s 1134) (ps_a s 1157) (ps_a s 1152) (ps_a s 1153) (ps_a s 1154) (ps_a s 1155) (ps_i s 1131 21).toInt x1.toInt) (hA : As σ (ps_a s 1134) x1.toInt (ps_i s 1131 51).toInt) (hO : OutB (ps_a s0 1134) (ps_a s 1134) x1.toInt) (i4_k : 0 ≤ x1.toInt) (i5_k : x1.toInt < 40) (i6_k : (ps_i s0 1131 51).toInt ≤ 100) (i7_k : (ps_i s 1131 51).toInt = (ps_i s0 1131 51).toInt) (i8_k : (ps_a s 1152 (Int32.toNatClampNeg x1)).toInt = 13) (i9_k : x4.toInt = 22468 + 41 * x1.toInt) : ps_At (d + 5) 257 195 [(0, .ref 1131), (1, .int x1), (4, .int x4)] [] s Q := by
  have r1_k := mf_51 J
  have r2_k : 0 ≤ (ps_a s 1152 (Int32.toNatClampNeg x1)).toInt ∧ (ps_a s 1152 (Int32.toNatClampNeg x1)).toInt ≤ 18 := ma_1152 (i := x1) J (show 0 ≤ x1.toInt from by omega) (show x1.toInt < 40 from by omega)
  refine pg_257_195 (d := d + 4) ?_
  refine ms_241 J (show 1 ≤ (4 : Int) from by omega) (show (4 : Int) ≤ 5 from by omega) (fun s3 J3 K3 p3_0 => ?_)
  have K4 := kpt K K3 rfl rfl
  have KC := K3
  have hS : Sg (ps_a s3 1135) (ps_a s3 1136) (ps_a s3 1138) (ps_a s3 1139) (ps_i s3 1131 21).toInt σ := by rw [show ps_a s3 1135 = ps_a s 1135 from (K3.2 1135 rfl).1, show ps_a s3 1136 = ps_a s 1136 from (K3.2 1136 rfl).1, show ps_a s3 1138 = ps_a s 1138 from (K3.2 1138 rfl).1, show ps_a s3 1139 = ps_a s 1139 from (K3.2 1139 rfl).1, show ps_i s3 1131 21 = ps_i s 1131 21 from kp_i K3 21 rfl]; exact hS
  have hC : SC σ (ps_a s3 1134) (ps_a s3 1157) (ps_a s3 1152) (ps_a s3 1153) (ps_a s3 1154) (ps_a s3 1155) (ps_i s3 1131 21).toInt x1.toInt := by rw [show ps_a s3 1134 = ps_a s 1134 from (K3.2 1134 rfl).1, show ps_a s3 1157 = ps_a s 1157 from (K3.2 1157 rfl).1, show ps_a s3 1152 = ps_a s 1152 from (K3.2 1152 rfl).1, show ps_a s3 1153 = ps_a s 1153 from (K3.2 1153 rfl).1, show ps_a s3 1154 = ps_a s 1154 from (K3.2 1154 rfl).1, show ps_a s3 1155 = ps_a s 1155 from (K3.2 1155 rfl).1, show ps_i s3 1131 21 = ps_i s 1131 21 from kp_i K3 21 rfl]; exact hC
  have hA : As σ (ps_a s3 1134) x1.toInt (ps_i s3 1131 51).toInt := by rw [show ps_a s3 1134 = ps_a s 1134 from (K3.2 1134 rfl).1, show ps_i s3 1131 51 = ps_i s 1131 51 from kp_i K3 51 rfl]; exact hA
  have hO : OutB (ps_a s0 1134) (ps_a s3 1134) x1.toInt := by rw [show ps_a s3 1134 = ps_a s 1134 from (K3.2 1134 rfl).1]; exact hO
  have p3_0' : 1 ≤ (ps_i s3 1131 50).toInt := p3_0
  have r5_k := mf_50 J3
  have r6_k := mf_51 J3
  have u7 : (ps_i s3 1131 51).toInt = (ps_i s 1131 51).toInt := xeq (kp_i K3 51 rfl)
  have r8_k : 0 ≤ (ps_a s3 1152 (Int32.toNatClampNeg x1)).toInt ∧ (ps_a s3 1152 (Int32.toNatClampNeg x1)).toInt ≤ 18 := ma_1152 (i := x1) J3 (show 0 ≤ x1.toInt from by omega) (show x1.toInt < 40 from by omega)
  have u9 : (ps_a s3 1152 (Int32.toNatClampNeg x1)).toInt = (ps_a s 1152 (Int32.toNatClampNeg x1)).toInt := xeq (kp_a K3 1152 rfl _)
  exact ms_257_200 (x1 := x1) (σ := σ) k  x4 _ J3 K4 hS hC hA hO (show 0 ≤ x1.toInt from by omega) (show x1.toInt < 40 from by omega) (show (ps_i s0 1131 51).toInt ≤ 100 from by omega) (show (ps_i s3 1131 51).toInt = (ps_i s0 1131 51).toInt from by omega) (show (ps_a s3 1152 (Int32.toNatClampNeg x1)).toInt = 13 from by omega) (show x4.toInt = 22468 + 41 * x1.toInt from by omega)

theorem ms_257_177 {x : Nat → Nat → Nat} {t : Int32} {d : Nat} {s0 : ps_S} {σ : mSig} {x1 : Int32} {Q : Option Value → ps_S → Prop} (k : ∀ (s' : ps_S), mJ x t s' → kp [1134, 1149, 1150] [34, 50, 51] s0 s' → (As σ (ps_a s' 1134) x1.toInt (ps_i s' 1131 51).toInt) → (OutB (ps_a s0 1134) (ps_a s' 1134) x1.toInt) → ((ps_i s0 1131 51).toInt ≤ (ps_i s' 1131 51).toInt) → ((ps_i s' 1131 51).toInt ≤ (ps_i s0 1131 51).toInt + 36) → (Res σ (ps_a s' 1149) (ps_i s' 1131 34).toInt (ps_i s' 1131 50).toInt) → Q none s') (x2 : Int32) (x4 : Int32) (s : ps_S) (J : mJ x t s) (K : kp [1134, 1149, 1150] [34, 50, 51] s0 s) (hS : Sg (ps_a s 1135) (ps_a s 1136) (ps_a s 1138) (ps_a s 1139) (ps_i s 1131 21).toInt σ) (hC : SC σ (ps_a s 1134) (ps_a s 1157) (ps_a s 1152) (ps_a s 1153) (ps_a s 1154) (ps_a s 1155) (ps_i s 1131 21).toInt x1.toInt) (hA : As σ (ps_a s 1134) x1.toInt (ps_i s 1131 51).toInt) (hO : OutB (ps_a s0 1134) (ps_a s 1134) x1.toInt) (i4_k : 0 ≤ x1.toInt) (i5_k : x1.toInt < 40) (i6_k : (ps_i s0 1131 51).toInt ≤ 100) (i7_k : (ps_i s 1131 51).toInt = (ps_i s0 1131 51).toInt) (i8_k : (ps_a s 1152 (Int32.toNatClampNeg x1)).toInt = 13) (i9_k : x2.toInt = 41 * (ps_a s 1153 (Int32.toNatClampNeg x1)).toInt) (i10_k : x4.toInt = 22468 + 41 * x1.toInt) : ps_At (d + 5) 257 177 [(0, .ref 1131), (1, .int x1), (2, .int x2), (4, .int x4)] [] s Q := by
  have r1_k := mf_51 J
  have r2_k : 0 ≤ (ps_a s 1152 (Int32.toNatClampNeg x1)).toInt ∧ (ps_a s 1152 (Int32.toNatClampNeg x1)).toInt ≤ 18 := ma_1152 (i := x1) J (show 0 ≤ x1.toInt from by omega) (show x1.toInt < 40 from by omega)
  have r3_k : -1 ≤ (ps_a s 1153 (Int32.toNatClampNeg x1)).toInt ∧ (ps_a s 1153 (Int32.toNatClampNeg x1)).toInt ≤ 9999 := ma_1153 (i := x1) J (show 0 ≤ x1.toInt from by omega) (show x1.toInt < 40 from by omega)
  refine pg_257_177 (d := d + 4) ?_
  have q1_k := SC_l1 hC rfl ⟨by omega, by omega, by omega, by omega⟩
  have hga := ma_1153 (i := x1) J (by omega) (by omega)
  have g0 := SC_g0 hC rfl
  refine pg_247_0 ?_
  refine pg_220_0 ?_
  have a4_k : (x4 + 1).toInt = x4.toInt + (1 : Int) := xIa (show -2147483648 ≤ x4.toInt + (1 : Int) from by omega) (show x4.toInt + (1 : Int) < 2147483648 from by omega)
  have a5_k : ((x4 + 1) + 0).toInt = (x4 + 1).toInt + (0 : Int) := xIa (show -2147483648 ≤ (x4 + 1).toInt + (0 : Int) from by omega) (show (x4 + 1).toInt + (0 : Int) < 2147483648 from by omega)
  refine ps_nd_i (show pm_in ((x4 + 1) + 0) 27400 = true from xgi (show 0 ≤ ((x4 + 1) + 0).toInt from by omega) (show ((x4 + 1) + 0).toInt < 27400 from by omega)) ?_
  have r6_k : ((x4 + 1) + 0).toInt % 41 = 0 → ((x4 + 1) + 0).toInt < 27306 → 0 ≤ (ps_a s 1134 (Int32.toNatClampNeg ((x4 + 1) + 0))).toInt ∧ (ps_a s 1134 (Int32.toNatClampNeg ((x4 + 1) + 0))).toInt ≤ 40 := fun z1_k z2_k => mp_row (i := ((x4 + 1) + 0)) J z1_k (show 0 ≤ ((x4 + 1) + 0).toInt from by omega) z2_k
  refine And.intro (fun h7_k => ?_) (fun h7_k => ?_)
  · have f8_k : (ps_a s 1134 (Int32.toNatClampNeg ((x4 + 1) + 0))).toInt ≠ (5 : Int) := xne h7_k
    exact ms_257_195 (x1 := x1) (σ := σ) k  x4 _ J K hS hC hA hO (show 0 ≤ x1.toInt from by omega) (show x1.toInt < 40 from by omega) (show (ps_i s0 1131 51).toInt ≤ 100 from by omega) (show (ps_i s 1131 51).toInt = (ps_i s0 1131 51).toInt from by omega) (show (ps_a s 1152 (Int32.toNatClampNeg x1)).toInt = 13 from by omega) (show x4.toInt = 22468 + 41 * x1.toInt from by omega)
  · have f9_k : (ps_a s 1134 (Int32.toNatClampNeg ((x4 + 1) + 0))).toInt = (5 : Int) := xeq h7_k
    refine ms_230 J (show x2.toInt % 41 = 0 from by omega) (show 0 ≤ x2.toInt from by omega) (show x2.toInt < 27306 from by omega) (fun v10 b10 => ?_)
    refine And.intro (fun h11_k => ?_) (fun h11_k => ?_)
    · have f12_k : v10.toInt ≠ (0 : Int) := xne h11_k
      exact ms_257_200 (x1 := x1) (σ := σ) k  x4 _ J K hS hC hA hO (show 0 ≤ x1.toInt from by omega) (show x1.toInt < 40 from by omega) (show (ps_i s0 1131 51).toInt ≤ 100 from by omega) (show (ps_i s 1131 51).toInt = (ps_i s0 1131 51).toInt from by omega) (show (ps_a s 1152 (Int32.toNatClampNeg x1)).toInt = 13 from by omega) (show x4.toInt = 22468 + 41 * x1.toInt from by omega)
    · have f13_k : v10.toInt = (0 : Int) := xeq h11_k
      exact ms_257_195 (x1 := x1) (σ := σ) k  x4 _ J K hS hC hA hO (show 0 ≤ x1.toInt from by omega) (show x1.toInt < 40 from by omega) (show (ps_i s0 1131 51).toInt ≤ 100 from by omega) (show (ps_i s 1131 51).toInt = (ps_i s0 1131 51).toInt from by omega) (show (ps_a s 1152 (Int32.toNatClampNeg x1)).toInt = 13 from by omega) (show x4.toInt = 22468 + 41 * x1.toInt from by omega)

theorem ms_257_275 {x : Nat → Nat → Nat} {t : Int32} {d : Nat} {s0 : ps_S} {σ : mSig} {x1 : Int32} {Q : Option Value → ps_S → Prop} (k : ∀ (s' : ps_S), mJ x t s' → kp [1134, 1149, 1150] [34, 50, 51] s0 s' → (As σ (ps_a s' 1134) x1.toInt (ps_i s' 1131 51).toInt) → (OutB (ps_a s0 1134) (ps_a s' 1134) x1.toInt) → ((ps_i s0 1131 51).toInt ≤ (ps_i s' 1131 51).toInt) → ((ps_i s' 1131 51).toInt ≤ (ps_i s0 1131 51).toInt + 36) → (Res σ (ps_a s' 1149) (ps_i s' 1131 34).toInt (ps_i s' 1131 50).toInt) → Q none s') (x4 : Int32) (s : ps_S) (J : mJ x t s) (K : kp [1134, 1149, 1150] [34, 50, 51] s0 s) (hS : Sg (ps_a s 1135) (ps_a s 1136) (ps_a s 1138) (ps_a s 1139) (ps_i s 1131 21).toInt σ) (hC : SC σ (ps_a s 1134) (ps_a s 1157) (ps_a s 1152) (ps_a s 1153) (ps_a s 1154) (ps_a s 1155) (ps_i s 1131 21).toInt x1.toInt) (hA : As σ (ps_a s 1134) x1.toInt (ps_i s 1131 51).toInt) (hO : OutB (ps_a s0 1134) (ps_a s 1134) x1.toInt) (hM : Md (ps_a s 1149) (ps_i s 1131 34).toInt ([] : List Nat)) (i5_k : 0 ≤ x1.toInt) (i6_k : x1.toInt < 40) (i7_k : (ps_i s0 1131 51).toInt ≤ 100) (i8_k : (ps_i s 1131 51).toInt = (ps_i s0 1131 51).toInt) (i9_k : (ps_a s 1152 (Int32.toNatClampNeg x1)).toInt = 16) (i10_k : x4.toInt = 22468 + 41 * x1.toInt) : ps_At (d + 5) 257 275 [(0, .ref 1131), (1, .int x1), (4, .int x4)] [] s Q := by
  have r1_k := mf_51 J
  have r2_k : 0 ≤ (ps_a s 1152 (Int32.toNatClampNeg x1)).toInt ∧ (ps_a s 1152 (Int32.toNatClampNeg x1)).toInt ≤ 18 := ma_1152 (i := x1) J (show 0 ≤ x1.toInt from by omega) (show x1.toInt < 40 from by omega)
  refine pg_257_275 (d := d + 4) ?_
  obtain ⟨l, hl1, hl2⟩ := SC_f (j := x4) hC rfl (by omega) (by omega)
  have hlen0 := hl1.2.2.2.1
  refine ms_227 J (hl1) (hM) ((by rw [List.length_nil]; omega)) (fun s3 J3 K3 p3_0 => ?_)
  have K4 := kpt K K3 rfl rfl
  have KC := K3
  have hS : Sg (ps_a s3 1135) (ps_a s3 1136) (ps_a s3 1138) (ps_a s3 1139) (ps_i s3 1131 21).toInt σ := by rw [show ps_a s3 1135 = ps_a s 1135 from (K3.2 1135 rfl).1, show ps_a s3 1136 = ps_a s 1136 from (K3.2 1136 rfl).1, show ps_a s3 1138 = ps_a s 1138 from (K3.2 1138 rfl).1, show ps_a s3 1139 = ps_a s 1139 from (K3.2 1139 rfl).1, show ps_i s3 1131 21 = ps_i s 1131 21 from kp_i K3 21 rfl]; exact hS
  have hC : SC σ (ps_a s3 1134) (ps_a s3 1157) (ps_a s3 1152) (ps_a s3 1153) (ps_a s3 1154) (ps_a s3 1155) (ps_i s3 1131 21).toInt x1.toInt := by rw [show ps_a s3 1134 = ps_a s 1134 from (K3.2 1134 rfl).1, show ps_a s3 1157 = ps_a s 1157 from (K3.2 1157 rfl).1, show ps_a s3 1152 = ps_a s 1152 from (K3.2 1152 rfl).1, show ps_a s3 1153 = ps_a s 1153 from (K3.2 1153 rfl).1, show ps_a s3 1154 = ps_a s 1154 from (K3.2 1154 rfl).1, show ps_a s3 1155 = ps_a s 1155 from (K3.2 1155 rfl).1, show ps_i s3 1131 21 = ps_i s 1131 21 from kp_i K3 21 rfl]; exact hC
  have hA : As σ (ps_a s3 1134) x1.toInt (ps_i s3 1131 51).toInt := by rw [show ps_a s3 1134 = ps_a s 1134 from (K3.2 1134 rfl).1, show ps_i s3 1131 51 = ps_i s 1131 51 from kp_i K3 51 rfl]; exact hA
  have hO : OutB (ps_a s0 1134) (ps_a s3 1134) x1.toInt := by rw [show ps_a s3 1134 = ps_a s 1134 from (K3.2 1134 rfl).1]; exact hO
  have hM1 : _ := p3_0
  have r5_k := mf_51 J3
  have u6 : (ps_i s3 1131 51).toInt = (ps_i s 1131 51).toInt := xeq (kp_i K3 51 rfl)
  have r7_k : 0 ≤ (ps_a s3 1152 (Int32.toNatClampNeg x1)).toInt ∧ (ps_a s3 1152 (Int32.toNatClampNeg x1)).toInt ≤ 18 := ma_1152 (i := x1) J3 (show 0 ≤ x1.toInt from by omega) (show x1.toInt < 40 from by omega)
  have u8 : (ps_a s3 1152 (Int32.toNatClampNeg x1)).toInt = (ps_a s 1152 (Int32.toNatClampNeg x1)).toInt := xeq (kp_a K3 1152 rfl _)
  exact ms_257_281 (x1 := x1) (σ := σ) k   _ J3 K4 hS hC hA hO (show 0 ≤ x1.toInt from by omega) (show x1.toInt < 40 from by omega) (show (ps_i s0 1131 51).toInt ≤ 100 from by omega) (show (ps_i s3 1131 51).toInt = (ps_i s0 1131 51).toInt from by omega) (show 11 ≤ (ps_a s3 1152 (Int32.toNatClampNeg x1)).toInt from by omega) (show (ps_a s3 1152 (Int32.toNatClampNeg x1)).toInt ≤ 16 from by omega) (show (ps_a s3 1152 (Int32.toNatClampNeg x1)).toInt ≠ 14 from by omega) (show (ps_a s3 1152 (Int32.toNatClampNeg x1)).toInt ≠ 15 from by omega) (⟨_, hM1, by rw [List.nil_append]; omega, Or.inl (wf_ws hl2)⟩)

theorem ms_257 {x : Nat → Nat → Nat} {t : Int32} {s : ps_S} {d : Nat} {x1 : Int32} {f : ps_S → Prop} (J : mJ x t s) {σ : mSig} (hS : Sg (ps_a s 1135) (ps_a s 1136) (ps_a s 1138) (ps_a s 1139) (ps_i s 1131 21).toInt σ) (hC : SC σ (ps_a s 1134) (ps_a s 1157) (ps_a s 1152) (ps_a s 1153) (ps_a s 1154) (ps_a s 1155) (ps_i s 1131 21).toInt x1.toInt) (hA : As σ (ps_a s 1134) x1.toInt (ps_i s 1131 51).toInt) (hM : Md (ps_a s 1149) (ps_i s 1131 34).toInt ([] : List Nat)) (q4_k : 0 ≤ x1.toInt) (q5_k : x1.toInt < 40) (q6_k : (ps_i s 1131 51).toInt ≤ 100) (q7_k : 11 ≤ (ps_a s 1152 (Int32.toNatClampNeg x1)).toInt) (q8_k : (ps_a s 1152 (Int32.toNatClampNeg x1)).toInt ≤ 16) (k : ∀ (s' : ps_S), mJ x t s' → kp [1134, 1149, 1150] [34, 50, 51] s s' → (As σ (ps_a s' 1134) x1.toInt (ps_i s' 1131 51).toInt) → (OutB (ps_a s 1134) (ps_a s' 1134) x1.toInt) → ((ps_i s 1131 51).toInt ≤ (ps_i s' 1131 51).toInt) → ((ps_i s' 1131 51).toInt ≤ (ps_i s 1131 51).toInt + 36) → (Res σ (ps_a s' 1149) (ps_i s' 1131 34).toInt (ps_i s' 1131 50).toInt) → f s') : ps_Cl (d + 5) 257 [.ref 1131, .int x1] s (ps_rV f) := by
  have r1_k := mf_51 J
  have r2_k : 0 ≤ (ps_a s 1152 (Int32.toNatClampNeg x1)).toInt ∧ (ps_a s 1152 (Int32.toNatClampNeg x1)).toInt ≤ 18 := ma_1152 (i := x1) J (show 0 ≤ x1.toInt from by omega) (show x1.toInt < 40 from by omega)
  have K : kp [1134, 1149, 1150] [34, 50, 51] s s := kp_refl
  refine pg_257_0 (d := d + 4) ?_
  have hO : OutB (ps_a s 1134) (ps_a s 1134) x1.toInt := OutB_refl
  have h34_k : (ps_i s 1131 34).toInt = 0 := hM.1
  refine pg_244_0 ?_
  refine ps_nd_i (show pm_in x1 40 = true from xgi (show 0 ≤ x1.toInt from by omega) (show x1.toInt < 40 from by omega)) ?_
  have r3_k : -1 ≤ (ps_a s 1153 (Int32.toNatClampNeg x1)).toInt ∧ (ps_a s 1153 (Int32.toNatClampNeg x1)).toInt ≤ 9999 := ma_1153 (i := x1) J (show 0 ≤ x1.toInt from by omega) (show x1.toInt < 40 from by omega)
  refine pg_242_0 ?_
  have a4_k : ((41 : Int32) * (ps_a s 1153 (Int32.toNatClampNeg x1))).toInt = (41 : Int) * (ps_a s 1153 (Int32.toNatClampNeg x1)).toInt := xIm (show -2147483648 ≤ (41 : Int) * (ps_a s 1153 (Int32.toNatClampNeg x1)).toInt from by omega) (show (41 : Int) * (ps_a s 1153 (Int32.toNatClampNeg x1)).toInt < 2147483648 from by omega)
  have a5_k : ((0 : Int32) + ((41 : Int32) * (ps_a s 1153 (Int32.toNatClampNeg x1)))).toInt = (0 : Int) + ((41 : Int32) * (ps_a s 1153 (Int32.toNatClampNeg x1))).toInt := xIa (show -2147483648 ≤ (0 : Int) + ((41 : Int32) * (ps_a s 1153 (Int32.toNatClampNeg x1))).toInt from by omega) (show (0 : Int) + ((41 : Int32) * (ps_a s 1153 (Int32.toNatClampNeg x1))).toInt < 2147483648 from by omega)
  have a6_k : ((41 : Int32) * x1).toInt = (41 : Int) * x1.toInt := xIm (show -2147483648 ≤ (41 : Int) * x1.toInt from by omega) (show (41 : Int) * x1.toInt < 2147483648 from by omega)
  have a7_k : ((24108 : Int32) + ((41 : Int32) * x1)).toInt = (24108 : Int) + ((41 : Int32) * x1).toInt := xIa (show -2147483648 ≤ (24108 : Int) + ((41 : Int32) * x1).toInt from by omega) (show (24108 : Int) + ((41 : Int32) * x1).toInt < 2147483648 from by omega)
  have a8_k : ((22468 : Int32) + ((41 : Int32) * x1)).toInt = (22468 : Int) + ((41 : Int32) * x1).toInt := xIa (show -2147483648 ≤ (22468 : Int) + ((41 : Int32) * x1).toInt from by omega) (show (22468 : Int) + ((41 : Int32) * x1).toInt < 2147483648 from by omega)
  refine ps_nd_i (show pm_in x1 40 = true from xgi (show 0 ≤ x1.toInt from by omega) (show x1.toInt < 40 from by omega)) ?_
  refine And.intro (fun h9_k => ?_) (fun h9_k => ?_)
  · have f10_k : (ps_a s 1152 (Int32.toNatClampNeg x1)).toInt = (11 : Int) := xeq h9_k
    exact ms_257_67 (x1 := x1) (σ := σ) k  (20 - (0 : Int)).toNat ((0 : Int32) + ((41 : Int32) * (ps_a s 1153 (Int32.toNatClampNeg x1)))) (0) _ J K hS hC hA hO hM (show 0 ≤ x1.toInt from by omega) (show x1.toInt < 40 from by omega) (show (ps_i s 1131 51).toInt ≤ 100 from by omega) (show (ps_i s 1131 51).toInt = (ps_i s 1131 51).toInt from by omega) (show (ps_a s 1152 (Int32.toNatClampNeg x1)).toInt = 11 from by omega) (show ((0 : Int32) + ((41 : Int32) * (ps_a s 1153 (Int32.toNatClampNeg x1)))).toInt = 41 * (ps_a s 1153 (Int32.toNatClampNeg x1)).toInt from by omega) (show 0 ≤ (0 : Int) from by omega) (show (0 : Int) ≤ 12 from by omega) (show 20 - (0 : Int) ≤ (((20 - (0 : Int)).toNat : Nat) : Int) from by omega)
  have f11_k : (ps_a s 1152 (Int32.toNatClampNeg x1)).toInt ≠ (11 : Int) := xne h9_k
  refine And.intro (fun h12_k => ?_) (fun h12_k => ?_)
  · have f13_k : (ps_a s 1152 (Int32.toNatClampNeg x1)).toInt = (12 : Int) := xeq h12_k
    obtain ⟨l, hl1, hl2⟩ := SC_1i hC rfl ⟨by omega, by omega, by omega, by omega⟩
    have hl1 : Rw (ps_a s 1134) (((0 : Int32) + ((41 : Int32) * (ps_a s 1153 (Int32.toNatClampNeg x1))))).toInt l := by rw [show (((0 : Int32) + ((41 : Int32) * (ps_a s 1153 (Int32.toNatClampNeg x1))))).toInt = 41 * (ps_a s 1153 (Int32.toNatClampNeg x1)).toInt from by omega]; exact hl1
    have hlen0 := hl1.2.2.2.1
    have w1 := hl1.1
    have w2 := hl1.2.1
    have w3 := hl1.2.2.1
    obtain ⟨c, l3, rfl⟩ := wf_ne hl2
    have hp_k := Rw_p (l1 := []) (i := 0) hl1 rfl rfl
    refine pg_247_0 ?_
    refine pg_220_0 ?_
    have a14_k : (((0 : Int32) + ((41 : Int32) * (ps_a s 1153 (Int32.toNatClampNeg x1)))) + 1).toInt = ((0 : Int32) + ((41 : Int32) * (ps_a s 1153 (Int32.toNatClampNeg x1)))).toInt + (1 : Int) := xIa (show -2147483648 ≤ ((0 : Int32) + ((41 : Int32) * (ps_a s 1153 (Int32.toNatClampNeg x1)))).toInt + (1 : Int) from by omega) (show ((0 : Int32) + ((41 : Int32) * (ps_a s 1153 (Int32.toNatClampNeg x1)))).toInt + (1 : Int) < 2147483648 from by omega)
    have a15_k : ((((0 : Int32) + ((41 : Int32) * (ps_a s 1153 (Int32.toNatClampNeg x1)))) + 1) + 0).toInt = (((0 : Int32) + ((41 : Int32) * (ps_a s 1153 (Int32.toNatClampNeg x1)))) + 1).toInt + (0 : Int) := xIa (show -2147483648 ≤ (((0 : Int32) + ((41 : Int32) * (ps_a s 1153 (Int32.toNatClampNeg x1)))) + 1).toInt + (0 : Int) from by omega) (show (((0 : Int32) + ((41 : Int32) * (ps_a s 1153 (Int32.toNatClampNeg x1)))) + 1).toInt + (0 : Int) < 2147483648 from by omega)
    refine ps_nd_i (show pm_in ((((0 : Int32) + ((41 : Int32) * (ps_a s 1153 (Int32.toNatClampNeg x1)))) + 1) + 0) 27400 = true from xgi (show 0 ≤ ((((0 : Int32) + ((41 : Int32) * (ps_a s 1153 (Int32.toNatClampNeg x1)))) + 1) + 0).toInt from by omega) (show ((((0 : Int32) + ((41 : Int32) * (ps_a s 1153 (Int32.toNatClampNeg x1)))) + 1) + 0).toInt < 27400 from by omega)) ?_
    have r16_k : ((((0 : Int32) + ((41 : Int32) * (ps_a s 1153 (Int32.toNatClampNeg x1)))) + 1) + 0).toInt % 41 = 0 → ((((0 : Int32) + ((41 : Int32) * (ps_a s 1153 (Int32.toNatClampNeg x1)))) + 1) + 0).toInt < 27306 → 0 ≤ (ps_a s 1134 (Int32.toNatClampNeg ((((0 : Int32) + ((41 : Int32) * (ps_a s 1153 (Int32.toNatClampNeg x1)))) + 1) + 0))).toInt ∧ (ps_a s 1134 (Int32.toNatClampNeg ((((0 : Int32) + ((41 : Int32) * (ps_a s 1153 (Int32.toNatClampNeg x1)))) + 1) + 0))).toInt ≤ 40 := fun z1_k z2_k => mp_row (i := ((((0 : Int32) + ((41 : Int32) * (ps_a s 1153 (Int32.toNatClampNeg x1)))) + 1) + 0)) J z1_k (show 0 ≤ ((((0 : Int32) + ((41 : Int32) * (ps_a s 1153 (Int32.toNatClampNeg x1)))) + 1) + 0).toInt from by omega) z2_k
    refine And.intro (fun h17_k => ?_) (fun h17_k => ?_)
    · have f18_k : (ps_a s 1134 (Int32.toNatClampNeg ((((0 : Int32) + ((41 : Int32) * (ps_a s 1153 (Int32.toNatClampNeg x1)))) + 1) + 0))).toInt = (4 : Int) := xeq h17_k
      have hc1 : c = 4 := by omega
      subst hc1
      obtain ⟨ks_k, hk_k, hw2⟩ := ws_hd (show ws σ (4 :: l3) [true] from wf_ws hl2)
      rw [kS_f1 (Or.inl rfl)] at hk_k
      cases hk_k
      obtain ⟨tl_k, ht1, ht2⟩ := SC_t (j := ((24108 : Int32) + ((41 : Int32) * x1))) hC rfl (by omega) (by omega)
      refine ms_231 J hS (hl1) ((Or.inr ⟨by omega, tl_k, ht1, wf_ws ht2⟩)) (hM) ((by decide)) ((show ws σ l3 [true] from hw2)) (fun s19 J19 K19 p19_0 => ?_)
      have K20 := kpt K K19 rfl rfl
      have KC := K19
      have hS : Sg (ps_a s19 1135) (ps_a s19 1136) (ps_a s19 1138) (ps_a s19 1139) (ps_i s19 1131 21).toInt σ := by rw [show ps_a s19 1135 = ps_a s 1135 from (K19.2 1135 rfl).1, show ps_a s19 1136 = ps_a s 1136 from (K19.2 1136 rfl).1, show ps_a s19 1138 = ps_a s 1138 from (K19.2 1138 rfl).1, show ps_a s19 1139 = ps_a s 1139 from (K19.2 1139 rfl).1, show ps_i s19 1131 21 = ps_i s 1131 21 from kp_i K19 21 rfl]; exact hS
      have hC : SC σ (ps_a s19 1134) (ps_a s19 1157) (ps_a s19 1152) (ps_a s19 1153) (ps_a s19 1154) (ps_a s19 1155) (ps_i s19 1131 21).toInt x1.toInt := by rw [show ps_a s19 1134 = ps_a s 1134 from (K19.2 1134 rfl).1, show ps_a s19 1157 = ps_a s 1157 from (K19.2 1157 rfl).1, show ps_a s19 1152 = ps_a s 1152 from (K19.2 1152 rfl).1, show ps_a s19 1153 = ps_a s 1153 from (K19.2 1153 rfl).1, show ps_a s19 1154 = ps_a s 1154 from (K19.2 1154 rfl).1, show ps_a s19 1155 = ps_a s 1155 from (K19.2 1155 rfl).1, show ps_i s19 1131 21 = ps_i s 1131 21 from kp_i K19 21 rfl]; exact hC
      have hA : As σ (ps_a s19 1134) x1.toInt (ps_i s19 1131 51).toInt := by rw [show ps_a s19 1134 = ps_a s 1134 from (K19.2 1134 rfl).1, show ps_i s19 1131 51 = ps_i s 1131 51 from kp_i K19 51 rfl]; exact hA
      have hO : OutB (ps_a s 1134) (ps_a s19 1134) x1.toInt := by rw [show ps_a s19 1134 = ps_a s 1134 from (K19.2 1134 rfl).1]; exact hO
      have hG : _ := p19_0
      have r21_k := mf_51 J19
      have u22 : (ps_i s19 1131 51).toInt = (ps_i s 1131 51).toInt := xeq (kp_i K19 51 rfl)
      have r23_k : 0 ≤ (ps_a s19 1152 (Int32.toNatClampNeg x1)).toInt ∧ (ps_a s19 1152 (Int32.toNatClampNeg x1)).toInt ≤ 18 := ma_1152 (i := x1) J19 (show 0 ≤ x1.toInt from by omega) (show x1.toInt < 40 from by omega)
      have u24 : (ps_a s19 1152 (Int32.toNatClampNeg x1)).toInt = (ps_a s 1152 (Int32.toNatClampNeg x1)).toInt := xeq (kp_a K19 1152 rfl _)
      exact ms_257_281 (x1 := x1) (σ := σ) k   _ J19 K20 hS hC hA hO (show 0 ≤ x1.toInt from by omega) (show x1.toInt < 40 from by omega) (show (ps_i s 1131 51).toInt ≤ 100 from by omega) (show (ps_i s19 1131 51).toInt = (ps_i s 1131 51).toInt from by omega) (show 11 ≤ (ps_a s19 1152 (Int32.toNatClampNeg x1)).toInt from by omega) (show (ps_a s19 1152 (Int32.toNatClampNeg x1)).toInt ≤ 16 from by omega) (show (ps_a s19 1152 (Int32.toNatClampNeg x1)).toInt ≠ 14 from by omega) (show (ps_a s19 1152 (Int32.toNatClampNeg x1)).toInt ≠ 15 from by omega) ((by obtain ⟨m, g1, g2, g3⟩ := hG; exact ⟨_, g3, by rw [List.nil_append]; omega, Or.inl (show ws σ m [true] from rp_ws (Sg_σ hS) g2 hw2)⟩))
    · have f25_k : (ps_a s 1134 (Int32.toNatClampNeg ((((0 : Int32) + ((41 : Int32) * (ps_a s 1153 (Int32.toNatClampNeg x1)))) + 1) + 0))).toInt ≠ (4 : Int) := xne h17_k
      refine ms_241 J (show 1 ≤ (2 : Int) from by omega) (show (2 : Int) ≤ 5 from by omega) (fun s26 J26 K26 p26_0 => ?_)
      have K27 := kpt K K26 rfl rfl
      have KC := K26
      have hS : Sg (ps_a s26 1135) (ps_a s26 1136) (ps_a s26 1138) (ps_a s26 1139) (ps_i s26 1131 21).toInt σ := by rw [show ps_a s26 1135 = ps_a s 1135 from (K26.2 1135 rfl).1, show ps_a s26 1136 = ps_a s 1136 from (K26.2 1136 rfl).1, show ps_a s26 1138 = ps_a s 1138 from (K26.2 1138 rfl).1, show ps_a s26 1139 = ps_a s 1139 from (K26.2 1139 rfl).1, show ps_i s26 1131 21 = ps_i s 1131 21 from kp_i K26 21 rfl]; exact hS
      have hC : SC σ (ps_a s26 1134) (ps_a s26 1157) (ps_a s26 1152) (ps_a s26 1153) (ps_a s26 1154) (ps_a s26 1155) (ps_i s26 1131 21).toInt x1.toInt := by rw [show ps_a s26 1134 = ps_a s 1134 from (K26.2 1134 rfl).1, show ps_a s26 1157 = ps_a s 1157 from (K26.2 1157 rfl).1, show ps_a s26 1152 = ps_a s 1152 from (K26.2 1152 rfl).1, show ps_a s26 1153 = ps_a s 1153 from (K26.2 1153 rfl).1, show ps_a s26 1154 = ps_a s 1154 from (K26.2 1154 rfl).1, show ps_a s26 1155 = ps_a s 1155 from (K26.2 1155 rfl).1, show ps_i s26 1131 21 = ps_i s 1131 21 from kp_i K26 21 rfl]; exact hC
      have hA : As σ (ps_a s26 1134) x1.toInt (ps_i s26 1131 51).toInt := by rw [show ps_a s26 1134 = ps_a s 1134 from (K26.2 1134 rfl).1, show ps_i s26 1131 51 = ps_i s 1131 51 from kp_i K26 51 rfl]; exact hA
      have hM : Md (ps_a s26 1149) (ps_i s26 1131 34).toInt ([] : List Nat) := by rw [show ps_a s26 1149 = ps_a s 1149 from (K26.2 1149 rfl).1, show ps_i s26 1131 34 = ps_i s 1131 34 from kp_i K26 34 rfl]; exact hM
      have hO : OutB (ps_a s 1134) (ps_a s26 1134) x1.toInt := by rw [show ps_a s26 1134 = ps_a s 1134 from (K26.2 1134 rfl).1]; exact hO
      have p26_0' : 1 ≤ (ps_i s26 1131 50).toInt := p26_0
      have r28_k := mf_50 J26
      have r29_k := mf_51 J26
      have u30 : (ps_i s26 1131 51).toInt = (ps_i s 1131 51).toInt := xeq (kp_i K26 51 rfl)
      have r31_k : 0 ≤ (ps_a s26 1152 (Int32.toNatClampNeg x1)).toInt ∧ (ps_a s26 1152 (Int32.toNatClampNeg x1)).toInt ≤ 18 := ma_1152 (i := x1) J26 (show 0 ≤ x1.toInt from by omega) (show x1.toInt < 40 from by omega)
      have u32 : (ps_a s26 1152 (Int32.toNatClampNeg x1)).toInt = (ps_a s 1152 (Int32.toNatClampNeg x1)).toInt := xeq (kp_a K26 1152 rfl _)
      exact ms_257_281 (x1 := x1) (σ := σ) k   _ J26 K27 hS hC hA hO (show 0 ≤ x1.toInt from by omega) (show x1.toInt < 40 from by omega) (show (ps_i s 1131 51).toInt ≤ 100 from by omega) (show (ps_i s26 1131 51).toInt = (ps_i s 1131 51).toInt from by omega) (show 11 ≤ (ps_a s26 1152 (Int32.toNatClampNeg x1)).toInt from by omega) (show (ps_a s26 1152 (Int32.toNatClampNeg x1)).toInt ≤ 16 from by omega) (show (ps_a s26 1152 (Int32.toNatClampNeg x1)).toInt ≠ 14 from by omega) (show (ps_a s26 1152 (Int32.toNatClampNeg x1)).toInt ≠ 15 from by omega) (⟨[], hM, by decide, Or.inr ⟨rfl, show 1 ≤ (ps_i s26 1131 50).toInt from by omega⟩⟩)
  have f33_k : (ps_a s 1152 (Int32.toNatClampNeg x1)).toInt ≠ (12 : Int) := xne h12_k
  refine And.intro (fun h34_k => ?_) (fun h34_k => ?_)
  · have f35_k : (ps_a s 1152 (Int32.toNatClampNeg x1)).toInt = (13 : Int) := xeq h34_k
    obtain ⟨l, hl1, hl2⟩ := SC_f (j := ((22468 : Int32) + ((41 : Int32) * x1))) hC rfl (by omega) (by omega)
    have w1 := hl1.1
    have w2 := hl1.2.1
    have w3 := hl1.2.2.1
    obtain ⟨c, l3, rfl⟩ := wf_ne hl2
    have hp_k := Rw_p (l1 := []) (i := 0) hl1 rfl rfl
    refine pg_247_0 ?_
    refine pg_220_0 ?_
    have a36_k : (((22468 : Int32) + ((41 : Int32) * x1)) + 1).toInt = ((22468 : Int32) + ((41 : Int32) * x1)).toInt + (1 : Int) := xIa (show -2147483648 ≤ ((22468 : Int32) + ((41 : Int32) * x1)).toInt + (1 : Int) from by omega) (show ((22468 : Int32) + ((41 : Int32) * x1)).toInt + (1 : Int) < 2147483648 from by omega)
    have a37_k : ((((22468 : Int32) + ((41 : Int32) * x1)) + 1) + 0).toInt = (((22468 : Int32) + ((41 : Int32) * x1)) + 1).toInt + (0 : Int) := xIa (show -2147483648 ≤ (((22468 : Int32) + ((41 : Int32) * x1)) + 1).toInt + (0 : Int) from by omega) (show (((22468 : Int32) + ((41 : Int32) * x1)) + 1).toInt + (0 : Int) < 2147483648 from by omega)
    refine ps_nd_i (show pm_in ((((22468 : Int32) + ((41 : Int32) * x1)) + 1) + 0) 27400 = true from xgi (show 0 ≤ ((((22468 : Int32) + ((41 : Int32) * x1)) + 1) + 0).toInt from by omega) (show ((((22468 : Int32) + ((41 : Int32) * x1)) + 1) + 0).toInt < 27400 from by omega)) ?_
    have r38_k : ((((22468 : Int32) + ((41 : Int32) * x1)) + 1) + 0).toInt % 41 = 0 → ((((22468 : Int32) + ((41 : Int32) * x1)) + 1) + 0).toInt < 27306 → 0 ≤ (ps_a s 1134 (Int32.toNatClampNeg ((((22468 : Int32) + ((41 : Int32) * x1)) + 1) + 0))).toInt ∧ (ps_a s 1134 (Int32.toNatClampNeg ((((22468 : Int32) + ((41 : Int32) * x1)) + 1) + 0))).toInt ≤ 40 := fun z1_k z2_k => mp_row (i := ((((22468 : Int32) + ((41 : Int32) * x1)) + 1) + 0)) J z1_k (show 0 ≤ ((((22468 : Int32) + ((41 : Int32) * x1)) + 1) + 0).toInt from by omega) z2_k
    refine And.intro (fun h39_k => ?_) (fun h39_k => ?_)
    · have f40_k : (ps_a s 1134 (Int32.toNatClampNeg ((((22468 : Int32) + ((41 : Int32) * x1)) + 1) + 0))).toInt ≠ (5 : Int) := xne h39_k
      exact ms_257_177 (x1 := x1) (σ := σ) k  ((0 : Int32) + ((41 : Int32) * (ps_a s 1153 (Int32.toNatClampNeg x1)))) ((22468 : Int32) + ((41 : Int32) * x1)) _ J K hS hC hA hO (show 0 ≤ x1.toInt from by omega) (show x1.toInt < 40 from by omega) (show (ps_i s 1131 51).toInt ≤ 100 from by omega) (show (ps_i s 1131 51).toInt = (ps_i s 1131 51).toInt from by omega) (show (ps_a s 1152 (Int32.toNatClampNeg x1)).toInt = 13 from by omega) (show ((0 : Int32) + ((41 : Int32) * (ps_a s 1153 (Int32.toNatClampNeg x1)))).toInt = 41 * (ps_a s 1153 (Int32.toNatClampNeg x1)).toInt from by omega) (show ((22468 : Int32) + ((41 : Int32) * x1)).toInt = 22468 + 41 * x1.toInt from by omega)
    · have f41_k : (ps_a s 1134 (Int32.toNatClampNeg ((((22468 : Int32) + ((41 : Int32) * x1)) + 1) + 0))).toInt = (5 : Int) := xeq h39_k
      have hc1 : c = 5 := by omega
      subst hc1
      obtain ⟨ks_k, hk_k, hw2⟩ := ws_hd (show ws σ (5 :: l3) [true] from wf_ws hl2)
      rw [kS_f1 (Or.inr rfl)] at hk_k
      cases hk_k
      obtain ⟨tl_k, ht1, ht2⟩ := SC_t (j := ((24108 : Int32) + ((41 : Int32) * x1))) hC rfl (by omega) (by omega)
      refine ms_231 J hS (hl1) ((Or.inr ⟨by omega, tl_k, ht1, wf_ws ht2⟩)) (hM) ((by decide)) ((show ws σ l3 [true] from hw2)) (fun s42 J42 K42 p42_0 => ?_)
      have K43 := kpt K K42 rfl rfl
      have KC := K42
      have hS : Sg (ps_a s42 1135) (ps_a s42 1136) (ps_a s42 1138) (ps_a s42 1139) (ps_i s42 1131 21).toInt σ := by rw [show ps_a s42 1135 = ps_a s 1135 from (K42.2 1135 rfl).1, show ps_a s42 1136 = ps_a s 1136 from (K42.2 1136 rfl).1, show ps_a s42 1138 = ps_a s 1138 from (K42.2 1138 rfl).1, show ps_a s42 1139 = ps_a s 1139 from (K42.2 1139 rfl).1, show ps_i s42 1131 21 = ps_i s 1131 21 from kp_i K42 21 rfl]; exact hS
      have hC : SC σ (ps_a s42 1134) (ps_a s42 1157) (ps_a s42 1152) (ps_a s42 1153) (ps_a s42 1154) (ps_a s42 1155) (ps_i s42 1131 21).toInt x1.toInt := by rw [show ps_a s42 1134 = ps_a s 1134 from (K42.2 1134 rfl).1, show ps_a s42 1157 = ps_a s 1157 from (K42.2 1157 rfl).1, show ps_a s42 1152 = ps_a s 1152 from (K42.2 1152 rfl).1, show ps_a s42 1153 = ps_a s 1153 from (K42.2 1153 rfl).1, show ps_a s42 1154 = ps_a s 1154 from (K42.2 1154 rfl).1, show ps_a s42 1155 = ps_a s 1155 from (K42.2 1155 rfl).1, show ps_i s42 1131 21 = ps_i s 1131 21 from kp_i K42 21 rfl]; exact hC
      have hA : As σ (ps_a s42 1134) x1.toInt (ps_i s42 1131 51).toInt := by rw [show ps_a s42 1134 = ps_a s 1134 from (K42.2 1134 rfl).1, show ps_i s42 1131 51 = ps_i s 1131 51 from kp_i K42 51 rfl]; exact hA
      have hO : OutB (ps_a s 1134) (ps_a s42 1134) x1.toInt := by rw [show ps_a s42 1134 = ps_a s 1134 from (K42.2 1134 rfl).1]; exact hO
      have r44_k := mf_51 J42
      have u45 : (ps_i s42 1131 51).toInt = (ps_i s 1131 51).toInt := xeq (kp_i K42 51 rfl)
      have r46_k : 0 ≤ (ps_a s42 1152 (Int32.toNatClampNeg x1)).toInt ∧ (ps_a s42 1152 (Int32.toNatClampNeg x1)).toInt ≤ 18 := ma_1152 (i := x1) J42 (show 0 ≤ x1.toInt from by omega) (show x1.toInt < 40 from by omega)
      have u47 : (ps_a s42 1152 (Int32.toNatClampNeg x1)).toInt = (ps_a s 1152 (Int32.toNatClampNeg x1)).toInt := xeq (kp_a K42 1152 rfl _)
      have r48_k : -1 ≤ (ps_a s42 1153 (Int32.toNatClampNeg x1)).toInt ∧ (ps_a s42 1153 (Int32.toNatClampNeg x1)).toInt ≤ 9999 := ma_1153 (i := x1) J42 (show 0 ≤ x1.toInt from by omega) (show x1.toInt < 40 from by omega)
      have u49 : (ps_a s42 1153 (Int32.toNatClampNeg x1)).toInt = (ps_a s 1153 (Int32.toNatClampNeg x1)).toInt := xeq (kp_a K42 1153 rfl _)
      exact ms_257_177 (x1 := x1) (σ := σ) k  ((0 : Int32) + ((41 : Int32) * (ps_a s 1153 (Int32.toNatClampNeg x1)))) ((22468 : Int32) + ((41 : Int32) * x1)) _ J42 K43 hS hC hA hO (show 0 ≤ x1.toInt from by omega) (show x1.toInt < 40 from by omega) (show (ps_i s 1131 51).toInt ≤ 100 from by omega) (show (ps_i s42 1131 51).toInt = (ps_i s 1131 51).toInt from by omega) (show (ps_a s42 1152 (Int32.toNatClampNeg x1)).toInt = 13 from by omega) (show ((0 : Int32) + ((41 : Int32) * (ps_a s 1153 (Int32.toNatClampNeg x1)))).toInt = 41 * (ps_a s42 1153 (Int32.toNatClampNeg x1)).toInt from by omega) (show ((22468 : Int32) + ((41 : Int32) * x1)).toInt = 22468 + 41 * x1.toInt from by omega)
  have f50_k : (ps_a s 1152 (Int32.toNatClampNeg x1)).toInt ≠ (13 : Int) := xne h34_k
  refine And.intro (fun h51_k => ?_) (fun h51_k => ?_)
  · have f52_k : (ps_a s 1152 (Int32.toNatClampNeg x1)).toInt = (14 : Int) := xeq h51_k
    refine ms_258 J hS hC hA hM (show 0 ≤ x1.toInt from by omega) (show x1.toInt < 40 from by omega) (show (ps_i s 1131 51).toInt ≤ 100 from by omega) (show (ps_a s 1152 (Int32.toNatClampNeg x1)).toInt = 14 from by omega) (fun s53 J53 K53 p53_0 p53_1 p53_2 p53_3 p53_4 => ?_)
    have K54 := kpt K K53 rfl rfl
    have KC := K53
    have hS : Sg (ps_a s53 1135) (ps_a s53 1136) (ps_a s53 1138) (ps_a s53 1139) (ps_i s53 1131 21).toInt σ := by rw [show ps_a s53 1135 = ps_a s 1135 from (K53.2 1135 rfl).1, show ps_a s53 1136 = ps_a s 1136 from (K53.2 1136 rfl).1, show ps_a s53 1138 = ps_a s 1138 from (K53.2 1138 rfl).1, show ps_a s53 1139 = ps_a s 1139 from (K53.2 1139 rfl).1, show ps_i s53 1131 21 = ps_i s 1131 21 from kp_i K53 21 rfl]; exact hS
    have p53_2' : (ps_i s 1131 51).toInt ≤ (ps_i s53 1131 51).toInt := p53_2
    have r55_k := mf_51 J53
    have p53_3' : (ps_i s53 1131 51).toInt ≤ (ps_i s 1131 51).toInt + 36 := p53_3
    have hA : As σ (ps_a s53 1134) x1.toInt (ps_i s53 1131 51).toInt := p53_0
    have hO : OutB (ps_a s 1134) (ps_a s53 1134) x1.toInt := p53_1
    have hRs : Res σ (ps_a s53 1149) (ps_i s53 1131 34).toInt (ps_i s53 1131 50).toInt := p53_4
    exact k _ J53 K54 hA hO (show (ps_i s 1131 51).toInt ≤ (ps_i s53 1131 51).toInt from by omega) (show (ps_i s53 1131 51).toInt ≤ (ps_i s 1131 51).toInt + 36 from by omega) hRs
  have f56_k : (ps_a s 1152 (Int32.toNatClampNeg x1)).toInt ≠ (14 : Int) := xne h51_k
  refine And.intro (fun h57_k => ?_) (fun h57_k => ?_)
  · have f58_k : (ps_a s 1152 (Int32.toNatClampNeg x1)).toInt = (15 : Int) := xeq h57_k
    refine pg_225_0 ?_
    have r59_k := mf_34 J
    refine And.intro (fun h60_k => ?_) (fun h60_k => ?_)
    · have f61_k : (260 : Int) ≤ (ps_i s 1131 34).toInt := xle h60_k
      have a62_k : ((ps_i s 1131 34) + 1).toInt = (ps_i s 1131 34).toInt + (1 : Int) := xIa (show -2147483648 ≤ (ps_i s 1131 34).toInt + (1 : Int) from by omega) (show (ps_i s 1131 34).toInt + (1 : Int) < 2147483648 from by omega)
      have J63 := mwi_34 (v := ((ps_i s 1131 34) + 1)) J (show 0 ≤ ((ps_i s 1131 34) + 1).toInt from by omega) (show ((ps_i s 1131 34) + 1).toInt ≤ 100000 from by omega)
      have K64 := kpi K (q := 34) (v := ((ps_i s 1131 34) + 1)) rfl
      have hM1 : Md (ps_a (ps_ui s 1131 34 ((ps_i s 1131 34) + 1)) 1149) (ps_i (ps_ui s 1131 34 ((ps_i s 1131 34) + 1)) 1131 34).toInt ([] ++ [6]) := by first | exact Md_make hM rfl (by decide) | exact Md_make' hM (by decide) (by omega)
      obtain ⟨tl_k, ht1, ht2⟩ := SC_t (j := ((24108 : Int32) + ((41 : Int32) * x1))) hC rfl (by omega) (by omega)
      have hTa : Rw (ps_a (ps_ui s 1131 34 ((ps_i s 1131 34) + 1)) 1134) ((24108 : Int32) + ((41 : Int32) * x1)).toInt tl_k := ht1
      have htl_k := ht1.2.2.2.1
      refine ms_227 J63 (hTa) (hM1) ((by simp only [List.length_append, List.length_cons, List.length_nil]; omega)) (fun s65 J65 K65 p65_0 => ?_)
      have K66 := kpt K64 K65 rfl rfl
      have KC := K65
      have hS : Sg (ps_a s65 1135) (ps_a s65 1136) (ps_a s65 1138) (ps_a s65 1139) (ps_i s65 1131 21).toInt σ := by rw [show ps_a s65 1135 = ps_a (ps_ui s 1131 34 ((ps_i s 1131 34) + 1)) 1135 from (K65.2 1135 rfl).1, show ps_a s65 1136 = ps_a (ps_ui s 1131 34 ((ps_i s 1131 34) + 1)) 1136 from (K65.2 1136 rfl).1, show ps_a s65 1138 = ps_a (ps_ui s 1131 34 ((ps_i s 1131 34) + 1)) 1138 from (K65.2 1138 rfl).1, show ps_a s65 1139 = ps_a (ps_ui s 1131 34 ((ps_i s 1131 34) + 1)) 1139 from (K65.2 1139 rfl).1, show ps_i s65 1131 21 = ps_i (ps_ui s 1131 34 ((ps_i s 1131 34) + 1)) 1131 21 from kp_i K65 21 rfl]; exact hS
      have hC : SC σ (ps_a s65 1134) (ps_a s65 1157) (ps_a s65 1152) (ps_a s65 1153) (ps_a s65 1154) (ps_a s65 1155) (ps_i s65 1131 21).toInt x1.toInt := by rw [show ps_a s65 1134 = ps_a (ps_ui s 1131 34 ((ps_i s 1131 34) + 1)) 1134 from (K65.2 1134 rfl).1, show ps_a s65 1157 = ps_a (ps_ui s 1131 34 ((ps_i s 1131 34) + 1)) 1157 from (K65.2 1157 rfl).1, show ps_a s65 1152 = ps_a (ps_ui s 1131 34 ((ps_i s 1131 34) + 1)) 1152 from (K65.2 1152 rfl).1, show ps_a s65 1153 = ps_a (ps_ui s 1131 34 ((ps_i s 1131 34) + 1)) 1153 from (K65.2 1153 rfl).1, show ps_a s65 1154 = ps_a (ps_ui s 1131 34 ((ps_i s 1131 34) + 1)) 1154 from (K65.2 1154 rfl).1, show ps_a s65 1155 = ps_a (ps_ui s 1131 34 ((ps_i s 1131 34) + 1)) 1155 from (K65.2 1155 rfl).1, show ps_i s65 1131 21 = ps_i (ps_ui s 1131 34 ((ps_i s 1131 34) + 1)) 1131 21 from kp_i K65 21 rfl]; exact hC
      have hA : As σ (ps_a s65 1134) x1.toInt (ps_i s65 1131 51).toInt := by rw [show ps_a s65 1134 = ps_a (ps_ui s 1131 34 ((ps_i s 1131 34) + 1)) 1134 from (K65.2 1134 rfl).1, show ps_i s65 1131 51 = ps_i (ps_ui s 1131 34 ((ps_i s 1131 34) + 1)) 1131 51 from kp_i K65 51 rfl]; exact hA
      have hO : OutB (ps_a s 1134) (ps_a s65 1134) x1.toInt := by rw [show ps_a s65 1134 = ps_a (ps_ui s 1131 34 ((ps_i s 1131 34) + 1)) 1134 from (K65.2 1134 rfl).1]; exact hO
      have hTa : Rw (ps_a s65 1134) ((24108 : Int32) + ((41 : Int32) * x1)).toInt tl_k := by rw [show ps_a s65 1134 = ps_a (ps_ui s 1131 34 ((ps_i s 1131 34) + 1)) 1134 from (K65.2 1134 rfl).1]; exact hTa
      have hM2 : Md (ps_a s65 1149) (ps_i s65 1131 34).toInt (([] ++ [6]) ++ tl_k) := p65_0
      refine ms_227 J65 (hTa) (hM2) ((by simp only [List.length_append, List.length_cons, List.length_nil]; omega)) (fun s67 J67 K67 p67_0 => ?_)
      have K68 := kpt K66 K67 rfl rfl
      have KC := K67
      have hS : Sg (ps_a s67 1135) (ps_a s67 1136) (ps_a s67 1138) (ps_a s67 1139) (ps_i s67 1131 21).toInt σ := by rw [show ps_a s67 1135 = ps_a s65 1135 from (K67.2 1135 rfl).1, show ps_a s67 1136 = ps_a s65 1136 from (K67.2 1136 rfl).1, show ps_a s67 1138 = ps_a s65 1138 from (K67.2 1138 rfl).1, show ps_a s67 1139 = ps_a s65 1139 from (K67.2 1139 rfl).1, show ps_i s67 1131 21 = ps_i s65 1131 21 from kp_i K67 21 rfl]; exact hS
      have hC : SC σ (ps_a s67 1134) (ps_a s67 1157) (ps_a s67 1152) (ps_a s67 1153) (ps_a s67 1154) (ps_a s67 1155) (ps_i s67 1131 21).toInt x1.toInt := by rw [show ps_a s67 1134 = ps_a s65 1134 from (K67.2 1134 rfl).1, show ps_a s67 1157 = ps_a s65 1157 from (K67.2 1157 rfl).1, show ps_a s67 1152 = ps_a s65 1152 from (K67.2 1152 rfl).1, show ps_a s67 1153 = ps_a s65 1153 from (K67.2 1153 rfl).1, show ps_a s67 1154 = ps_a s65 1154 from (K67.2 1154 rfl).1, show ps_a s67 1155 = ps_a s65 1155 from (K67.2 1155 rfl).1, show ps_i s67 1131 21 = ps_i s65 1131 21 from kp_i K67 21 rfl]; exact hC
      have hA : As σ (ps_a s67 1134) x1.toInt (ps_i s67 1131 51).toInt := by rw [show ps_a s67 1134 = ps_a s65 1134 from (K67.2 1134 rfl).1, show ps_i s67 1131 51 = ps_i s65 1131 51 from kp_i K67 51 rfl]; exact hA
      have hO : OutB (ps_a s 1134) (ps_a s67 1134) x1.toInt := by rw [show ps_a s67 1134 = ps_a s65 1134 from (K67.2 1134 rfl).1]; exact hO
      have hTa : Rw (ps_a s67 1134) ((24108 : Int32) + ((41 : Int32) * x1)).toInt tl_k := by rw [show ps_a s67 1134 = ps_a s65 1134 from (K67.2 1134 rfl).1]; exact hTa
      have hM3 : Md (ps_a s67 1149) (ps_i s67 1131 34).toInt ((([] ++ [6]) ++ tl_k) ++ tl_k) := p67_0
      have r69_k := mf_51 J67
      have u70 : (ps_i s67 1131 51).toInt = (ps_i s65 1131 51).toInt := xeq (kp_i K67 51 rfl)
      have r71_k := mf_51 J65
      have u72 : (ps_i s65 1131 51).toInt = (ps_i s 1131 51).toInt := xeq (kp_i K65 51 rfl)
      exact k _ J67 K68 hA hO (show (ps_i s 1131 51).toInt ≤ (ps_i s67 1131 51).toInt from by omega) (show (ps_i s67 1131 51).toInt ≤ (ps_i s 1131 51).toInt + 36 from by omega) (⟨_, hM3, by simp only [List.length_append, List.length_cons, List.length_nil]; omega, Or.inl (show ws σ (6 :: (tl_k ++ tl_k)) [true] from ws_c (W' := []) kS_f6 (ws_app (W1 := [false]) (W2 := [false]) (wf_ws ht2) (wf_ws ht2)))⟩)
    · have f73_k : (ps_i s 1131 34).toInt < (260 : Int) := xlt h60_k
      refine ps_nd_i (show pm_in (ps_i s 1131 34) 260 = true from xgi (show 0 ≤ (ps_i s 1131 34).toInt from by omega) (show (ps_i s 1131 34).toInt < 260 from by omega)) ?_
      have J74 := mwa_n 1149 (i := (Int32.toNatClampNeg (ps_i s 1131 34))) (v := (6 : Int32)) J rfl (by decide)
      have K75 := kpa' K (r := 1149) (i := (Int32.toNatClampNeg (ps_i s 1131 34))) (v := (6 : Int32)) rfl
      have a76_k : ((ps_i s 1131 34) + 1).toInt = (ps_i s 1131 34).toInt + (1 : Int) := xIa (show -2147483648 ≤ (ps_i s 1131 34).toInt + (1 : Int) from by omega) (show (ps_i s 1131 34).toInt + (1 : Int) < 2147483648 from by omega)
      have J77 := mwi_34 (v := ((ps_i s 1131 34) + 1)) J74 (show 0 ≤ ((ps_i s 1131 34) + 1).toInt from by omega) (show ((ps_i s 1131 34) + 1).toInt ≤ 100000 from by omega)
      have K78 := kpi K75 (q := 34) (v := ((ps_i s 1131 34) + 1)) rfl
      have hM1 : Md (ps_a (ps_ui (ps_ua s 1149 (Int32.toNatClampNeg (ps_i s 1131 34)) 6) 1131 34 ((ps_i s 1131 34) + 1)) 1149) (ps_i (ps_ui (ps_ua s 1149 (Int32.toNatClampNeg (ps_i s 1131 34)) 6) 1131 34 ((ps_i s 1131 34) + 1)) 1131 34).toInt ([] ++ [6]) := by first | exact Md_make hM rfl (by decide) | exact Md_make' hM (by decide) (by omega)
      obtain ⟨tl_k, ht1, ht2⟩ := SC_t (j := ((24108 : Int32) + ((41 : Int32) * x1))) hC rfl (by omega) (by omega)
      have hTa : Rw (ps_a (ps_ui (ps_ua s 1149 (Int32.toNatClampNeg (ps_i s 1131 34)) 6) 1131 34 ((ps_i s 1131 34) + 1)) 1134) ((24108 : Int32) + ((41 : Int32) * x1)).toInt tl_k := ht1
      have htl_k := ht1.2.2.2.1
      refine ms_227 J77 (hTa) (hM1) ((by simp only [List.length_append, List.length_cons, List.length_nil]; omega)) (fun s79 J79 K79 p79_0 => ?_)
      have K80 := kpt K78 K79 rfl rfl
      have KC := K79
      have hS : Sg (ps_a s79 1135) (ps_a s79 1136) (ps_a s79 1138) (ps_a s79 1139) (ps_i s79 1131 21).toInt σ := by rw [show ps_a s79 1135 = ps_a (ps_ui (ps_ua s 1149 (Int32.toNatClampNeg (ps_i s 1131 34)) 6) 1131 34 ((ps_i s 1131 34) + 1)) 1135 from (K79.2 1135 rfl).1, show ps_a s79 1136 = ps_a (ps_ui (ps_ua s 1149 (Int32.toNatClampNeg (ps_i s 1131 34)) 6) 1131 34 ((ps_i s 1131 34) + 1)) 1136 from (K79.2 1136 rfl).1, show ps_a s79 1138 = ps_a (ps_ui (ps_ua s 1149 (Int32.toNatClampNeg (ps_i s 1131 34)) 6) 1131 34 ((ps_i s 1131 34) + 1)) 1138 from (K79.2 1138 rfl).1, show ps_a s79 1139 = ps_a (ps_ui (ps_ua s 1149 (Int32.toNatClampNeg (ps_i s 1131 34)) 6) 1131 34 ((ps_i s 1131 34) + 1)) 1139 from (K79.2 1139 rfl).1, show ps_i s79 1131 21 = ps_i (ps_ui (ps_ua s 1149 (Int32.toNatClampNeg (ps_i s 1131 34)) 6) 1131 34 ((ps_i s 1131 34) + 1)) 1131 21 from kp_i K79 21 rfl]; exact hS
      have hC : SC σ (ps_a s79 1134) (ps_a s79 1157) (ps_a s79 1152) (ps_a s79 1153) (ps_a s79 1154) (ps_a s79 1155) (ps_i s79 1131 21).toInt x1.toInt := by rw [show ps_a s79 1134 = ps_a (ps_ui (ps_ua s 1149 (Int32.toNatClampNeg (ps_i s 1131 34)) 6) 1131 34 ((ps_i s 1131 34) + 1)) 1134 from (K79.2 1134 rfl).1, show ps_a s79 1157 = ps_a (ps_ui (ps_ua s 1149 (Int32.toNatClampNeg (ps_i s 1131 34)) 6) 1131 34 ((ps_i s 1131 34) + 1)) 1157 from (K79.2 1157 rfl).1, show ps_a s79 1152 = ps_a (ps_ui (ps_ua s 1149 (Int32.toNatClampNeg (ps_i s 1131 34)) 6) 1131 34 ((ps_i s 1131 34) + 1)) 1152 from (K79.2 1152 rfl).1, show ps_a s79 1153 = ps_a (ps_ui (ps_ua s 1149 (Int32.toNatClampNeg (ps_i s 1131 34)) 6) 1131 34 ((ps_i s 1131 34) + 1)) 1153 from (K79.2 1153 rfl).1, show ps_a s79 1154 = ps_a (ps_ui (ps_ua s 1149 (Int32.toNatClampNeg (ps_i s 1131 34)) 6) 1131 34 ((ps_i s 1131 34) + 1)) 1154 from (K79.2 1154 rfl).1, show ps_a s79 1155 = ps_a (ps_ui (ps_ua s 1149 (Int32.toNatClampNeg (ps_i s 1131 34)) 6) 1131 34 ((ps_i s 1131 34) + 1)) 1155 from (K79.2 1155 rfl).1, show ps_i s79 1131 21 = ps_i (ps_ui (ps_ua s 1149 (Int32.toNatClampNeg (ps_i s 1131 34)) 6) 1131 34 ((ps_i s 1131 34) + 1)) 1131 21 from kp_i K79 21 rfl]; exact hC
      have hA : As σ (ps_a s79 1134) x1.toInt (ps_i s79 1131 51).toInt := by rw [show ps_a s79 1134 = ps_a (ps_ui (ps_ua s 1149 (Int32.toNatClampNeg (ps_i s 1131 34)) 6) 1131 34 ((ps_i s 1131 34) + 1)) 1134 from (K79.2 1134 rfl).1, show ps_i s79 1131 51 = ps_i (ps_ui (ps_ua s 1149 (Int32.toNatClampNeg (ps_i s 1131 34)) 6) 1131 34 ((ps_i s 1131 34) + 1)) 1131 51 from kp_i K79 51 rfl]; exact hA
      have hO : OutB (ps_a s 1134) (ps_a s79 1134) x1.toInt := by rw [show ps_a s79 1134 = ps_a (ps_ui (ps_ua s 1149 (Int32.toNatClampNeg (ps_i s 1131 34)) 6) 1131 34 ((ps_i s 1131 34) + 1)) 1134 from (K79.2 1134 rfl).1]; exact hO
      have hTa : Rw (ps_a s79 1134) ((24108 : Int32) + ((41 : Int32) * x1)).toInt tl_k := by rw [show ps_a s79 1134 = ps_a (ps_ui (ps_ua s 1149 (Int32.toNatClampNeg (ps_i s 1131 34)) 6) 1131 34 ((ps_i s 1131 34) + 1)) 1134 from (K79.2 1134 rfl).1]; exact hTa
      have hM2 : Md (ps_a s79 1149) (ps_i s79 1131 34).toInt (([] ++ [6]) ++ tl_k) := p79_0
      refine ms_227 J79 (hTa) (hM2) ((by simp only [List.length_append, List.length_cons, List.length_nil]; omega)) (fun s81 J81 K81 p81_0 => ?_)
      have K82 := kpt K80 K81 rfl rfl
      have KC := K81
      have hS : Sg (ps_a s81 1135) (ps_a s81 1136) (ps_a s81 1138) (ps_a s81 1139) (ps_i s81 1131 21).toInt σ := by rw [show ps_a s81 1135 = ps_a s79 1135 from (K81.2 1135 rfl).1, show ps_a s81 1136 = ps_a s79 1136 from (K81.2 1136 rfl).1, show ps_a s81 1138 = ps_a s79 1138 from (K81.2 1138 rfl).1, show ps_a s81 1139 = ps_a s79 1139 from (K81.2 1139 rfl).1, show ps_i s81 1131 21 = ps_i s79 1131 21 from kp_i K81 21 rfl]; exact hS
      have hC : SC σ (ps_a s81 1134) (ps_a s81 1157) (ps_a s81 1152) (ps_a s81 1153) (ps_a s81 1154) (ps_a s81 1155) (ps_i s81 1131 21).toInt x1.toInt := by rw [show ps_a s81 1134 = ps_a s79 1134 from (K81.2 1134 rfl).1, show ps_a s81 1157 = ps_a s79 1157 from (K81.2 1157 rfl).1, show ps_a s81 1152 = ps_a s79 1152 from (K81.2 1152 rfl).1, show ps_a s81 1153 = ps_a s79 1153 from (K81.2 1153 rfl).1, show ps_a s81 1154 = ps_a s79 1154 from (K81.2 1154 rfl).1, show ps_a s81 1155 = ps_a s79 1155 from (K81.2 1155 rfl).1, show ps_i s81 1131 21 = ps_i s79 1131 21 from kp_i K81 21 rfl]; exact hC
      have hA : As σ (ps_a s81 1134) x1.toInt (ps_i s81 1131 51).toInt := by rw [show ps_a s81 1134 = ps_a s79 1134 from (K81.2 1134 rfl).1, show ps_i s81 1131 51 = ps_i s79 1131 51 from kp_i K81 51 rfl]; exact hA
      have hO : OutB (ps_a s 1134) (ps_a s81 1134) x1.toInt := by rw [show ps_a s81 1134 = ps_a s79 1134 from (K81.2 1134 rfl).1]; exact hO
      have hTa : Rw (ps_a s81 1134) ((24108 : Int32) + ((41 : Int32) * x1)).toInt tl_k := by rw [show ps_a s81 1134 = ps_a s79 1134 from (K81.2 1134 rfl).1]; exact hTa
      have hM3 : Md (ps_a s81 1149) (ps_i s81 1131 34).toInt ((([] ++ [6]) ++ tl_k) ++ tl_k) := p81_0
      have r83_k := mf_51 J81
      have u84 : (ps_i s81 1131 51).toInt = (ps_i s79 1131 51).toInt := xeq (kp_i K81 51 rfl)
      have r85_k := mf_51 J79
      have u86 : (ps_i s79 1131 51).toInt = (ps_i s 1131 51).toInt := xeq (kp_i K79 51 rfl)
      exact k _ J81 K82 hA hO (show (ps_i s 1131 51).toInt ≤ (ps_i s81 1131 51).toInt from by omega) (show (ps_i s81 1131 51).toInt ≤ (ps_i s 1131 51).toInt + 36 from by omega) (⟨_, hM3, by simp only [List.length_append, List.length_cons, List.length_nil]; omega, Or.inl (show ws σ (6 :: (tl_k ++ tl_k)) [true] from ws_c (W' := []) kS_f6 (ws_app (W1 := [false]) (W2 := [false]) (wf_ws ht2) (wf_ws ht2)))⟩)
  have f87_k : (ps_a s 1152 (Int32.toNatClampNeg x1)).toInt ≠ (15 : Int) := xne h57_k
  obtain ⟨l, hl1, hl2⟩ := SC_1i hC rfl ⟨by omega, by omega, by omega, by omega⟩
  have hl1 : Rw (ps_a s 1134) (((0 : Int32) + ((41 : Int32) * (ps_a s 1153 (Int32.toNatClampNeg x1))))).toInt l := by rw [show (((0 : Int32) + ((41 : Int32) * (ps_a s 1153 (Int32.toNatClampNeg x1))))).toInt = 41 * (ps_a s 1153 (Int32.toNatClampNeg x1)).toInt from by omega]; exact hl1
  have hlen0 := hl1.2.2.2.1
  have w1 := hl1.1
  have w2 := hl1.2.1
  have w3 := hl1.2.2.1
  obtain ⟨c, l3, rfl⟩ := wf_ne hl2
  have hp_k := Rw_p (l1 := []) (i := 0) hl1 rfl rfl
  have q2_k := SC_l2 hC rfl (by omega)
  have hgb := ma_1154 (i := x1) J (by omega) (by omega)
  refine pg_247_0 ?_
  refine pg_220_0 ?_
  have a88_k : (((0 : Int32) + ((41 : Int32) * (ps_a s 1153 (Int32.toNatClampNeg x1)))) + 1).toInt = ((0 : Int32) + ((41 : Int32) * (ps_a s 1153 (Int32.toNatClampNeg x1)))).toInt + (1 : Int) := xIa (show -2147483648 ≤ ((0 : Int32) + ((41 : Int32) * (ps_a s 1153 (Int32.toNatClampNeg x1)))).toInt + (1 : Int) from by omega) (show ((0 : Int32) + ((41 : Int32) * (ps_a s 1153 (Int32.toNatClampNeg x1)))).toInt + (1 : Int) < 2147483648 from by omega)
  have a89_k : ((((0 : Int32) + ((41 : Int32) * (ps_a s 1153 (Int32.toNatClampNeg x1)))) + 1) + 0).toInt = (((0 : Int32) + ((41 : Int32) * (ps_a s 1153 (Int32.toNatClampNeg x1)))) + 1).toInt + (0 : Int) := xIa (show -2147483648 ≤ (((0 : Int32) + ((41 : Int32) * (ps_a s 1153 (Int32.toNatClampNeg x1)))) + 1).toInt + (0 : Int) from by omega) (show (((0 : Int32) + ((41 : Int32) * (ps_a s 1153 (Int32.toNatClampNeg x1)))) + 1).toInt + (0 : Int) < 2147483648 from by omega)
  refine ps_nd_i (show pm_in ((((0 : Int32) + ((41 : Int32) * (ps_a s 1153 (Int32.toNatClampNeg x1)))) + 1) + 0) 27400 = true from xgi (show 0 ≤ ((((0 : Int32) + ((41 : Int32) * (ps_a s 1153 (Int32.toNatClampNeg x1)))) + 1) + 0).toInt from by omega) (show ((((0 : Int32) + ((41 : Int32) * (ps_a s 1153 (Int32.toNatClampNeg x1)))) + 1) + 0).toInt < 27400 from by omega)) ?_
  have r90_k : ((((0 : Int32) + ((41 : Int32) * (ps_a s 1153 (Int32.toNatClampNeg x1)))) + 1) + 0).toInt % 41 = 0 → ((((0 : Int32) + ((41 : Int32) * (ps_a s 1153 (Int32.toNatClampNeg x1)))) + 1) + 0).toInt < 27306 → 0 ≤ (ps_a s 1134 (Int32.toNatClampNeg ((((0 : Int32) + ((41 : Int32) * (ps_a s 1153 (Int32.toNatClampNeg x1)))) + 1) + 0))).toInt ∧ (ps_a s 1134 (Int32.toNatClampNeg ((((0 : Int32) + ((41 : Int32) * (ps_a s 1153 (Int32.toNatClampNeg x1)))) + 1) + 0))).toInt ≤ 40 := fun z1_k z2_k => mp_row (i := ((((0 : Int32) + ((41 : Int32) * (ps_a s 1153 (Int32.toNatClampNeg x1)))) + 1) + 0)) J z1_k (show 0 ≤ ((((0 : Int32) + ((41 : Int32) * (ps_a s 1153 (Int32.toNatClampNeg x1)))) + 1) + 0).toInt from by omega) z2_k
  refine And.intro (fun h91_k => ?_) (fun h91_k => ?_)
  · have f92_k : (ps_a s 1134 (Int32.toNatClampNeg ((((0 : Int32) + ((41 : Int32) * (ps_a s 1153 (Int32.toNatClampNeg x1)))) + 1) + 0))).toInt = (6 : Int) := xeq h91_k
    refine pg_245_0 ?_
    refine ps_nd_i (show pm_in x1 40 = true from xgi (show 0 ≤ x1.toInt from by omega) (show x1.toInt < 40 from by omega)) ?_
    have r93_k : 0 ≤ (ps_a s 1154 (Int32.toNatClampNeg x1)).toInt ∧ (ps_a s 1154 (Int32.toNatClampNeg x1)).toInt ≤ 9999 := ma_1154 (i := x1) J (show 0 ≤ x1.toInt from by omega) (show x1.toInt < 40 from by omega)
    refine pg_242_0 ?_
    have a94_k : ((41 : Int32) * (ps_a s 1154 (Int32.toNatClampNeg x1))).toInt = (41 : Int) * (ps_a s 1154 (Int32.toNatClampNeg x1)).toInt := xIm (show -2147483648 ≤ (41 : Int) * (ps_a s 1154 (Int32.toNatClampNeg x1)).toInt from by omega) (show (41 : Int) * (ps_a s 1154 (Int32.toNatClampNeg x1)).toInt < 2147483648 from by omega)
    have a95_k : ((0 : Int32) + ((41 : Int32) * (ps_a s 1154 (Int32.toNatClampNeg x1)))).toInt = (0 : Int) + ((41 : Int32) * (ps_a s 1154 (Int32.toNatClampNeg x1))).toInt := xIa (show -2147483648 ≤ (0 : Int) + ((41 : Int32) * (ps_a s 1154 (Int32.toNatClampNeg x1))).toInt from by omega) (show (0 : Int) + ((41 : Int32) * (ps_a s 1154 (Int32.toNatClampNeg x1))).toInt < 2147483648 from by omega)
    refine ms_260 J hS (⟨_, hl1, hl2⟩) (show ((0 : Int32) + ((41 : Int32) * (ps_a s 1153 (Int32.toNatClampNeg x1)))).toInt % 41 = 0 from by omega) (show 0 ≤ ((0 : Int32) + ((41 : Int32) * (ps_a s 1153 (Int32.toNatClampNeg x1)))).toInt from by omega) (show ((0 : Int32) + ((41 : Int32) * (ps_a s 1153 (Int32.toNatClampNeg x1)))).toInt < 27306 from by omega) (show ((0 : Int32) + ((41 : Int32) * (ps_a s 1154 (Int32.toNatClampNeg x1)))).toInt % 41 = 0 from by omega) (show 0 ≤ ((0 : Int32) + ((41 : Int32) * (ps_a s 1154 (Int32.toNatClampNeg x1)))).toInt from by omega) (show ((0 : Int32) + ((41 : Int32) * (ps_a s 1154 (Int32.toNatClampNeg x1)))).toInt < 27306 from by omega) (show ((22468 : Int32) + ((41 : Int32) * x1)).toInt % 41 = 0 from by omega) (show 0 ≤ ((22468 : Int32) + ((41 : Int32) * x1)).toInt from by omega) (show ((22468 : Int32) + ((41 : Int32) * x1)).toInt < 27306 from by omega) ((show (ps_a s 1134 (Int32.toNatClampNeg (((0 : Int32) + ((41 : Int32) * (ps_a s 1153 (Int32.toNatClampNeg x1)))) + 1 + 0))).toInt = 6 from by omega)) (fun v96 b96 => ?_)
    refine And.intro (fun h97_k => ?_) (fun h97_k => ?_)
    · have f98_k : v96.toInt ≠ (0 : Int) := xne h97_k
      exact ms_257_275 (x1 := x1) (σ := σ) k  ((22468 : Int32) + ((41 : Int32) * x1)) _ J K hS hC hA hO hM (show 0 ≤ x1.toInt from by omega) (show x1.toInt < 40 from by omega) (show (ps_i s 1131 51).toInt ≤ 100 from by omega) (show (ps_i s 1131 51).toInt = (ps_i s 1131 51).toInt from by omega) (show (ps_a s 1152 (Int32.toNatClampNeg x1)).toInt = 16 from by omega) (show ((22468 : Int32) + ((41 : Int32) * x1)).toInt = 22468 + 41 * x1.toInt from by omega)
    · have f99_k : v96.toInt = (0 : Int) := xeq h97_k
      refine ms_241 J (show 1 ≤ (4 : Int) from by omega) (show (4 : Int) ≤ 5 from by omega) (fun s100 J100 K100 p100_0 => ?_)
      have K101 := kpt K K100 rfl rfl
      have KC := K100
      have hS : Sg (ps_a s100 1135) (ps_a s100 1136) (ps_a s100 1138) (ps_a s100 1139) (ps_i s100 1131 21).toInt σ := by rw [show ps_a s100 1135 = ps_a s 1135 from (K100.2 1135 rfl).1, show ps_a s100 1136 = ps_a s 1136 from (K100.2 1136 rfl).1, show ps_a s100 1138 = ps_a s 1138 from (K100.2 1138 rfl).1, show ps_a s100 1139 = ps_a s 1139 from (K100.2 1139 rfl).1, show ps_i s100 1131 21 = ps_i s 1131 21 from kp_i K100 21 rfl]; exact hS
      have hC : SC σ (ps_a s100 1134) (ps_a s100 1157) (ps_a s100 1152) (ps_a s100 1153) (ps_a s100 1154) (ps_a s100 1155) (ps_i s100 1131 21).toInt x1.toInt := by rw [show ps_a s100 1134 = ps_a s 1134 from (K100.2 1134 rfl).1, show ps_a s100 1157 = ps_a s 1157 from (K100.2 1157 rfl).1, show ps_a s100 1152 = ps_a s 1152 from (K100.2 1152 rfl).1, show ps_a s100 1153 = ps_a s 1153 from (K100.2 1153 rfl).1, show ps_a s100 1154 = ps_a s 1154 from (K100.2 1154 rfl).1, show ps_a s100 1155 = ps_a s 1155 from (K100.2 1155 rfl).1, show ps_i s100 1131 21 = ps_i s 1131 21 from kp_i K100 21 rfl]; exact hC
      have hA : As σ (ps_a s100 1134) x1.toInt (ps_i s100 1131 51).toInt := by rw [show ps_a s100 1134 = ps_a s 1134 from (K100.2 1134 rfl).1, show ps_i s100 1131 51 = ps_i s 1131 51 from kp_i K100 51 rfl]; exact hA
      have hM : Md (ps_a s100 1149) (ps_i s100 1131 34).toInt ([] : List Nat) := by rw [show ps_a s100 1149 = ps_a s 1149 from (K100.2 1149 rfl).1, show ps_i s100 1131 34 = ps_i s 1131 34 from kp_i K100 34 rfl]; exact hM
      have hO : OutB (ps_a s 1134) (ps_a s100 1134) x1.toInt := by rw [show ps_a s100 1134 = ps_a s 1134 from (K100.2 1134 rfl).1]; exact hO
      have p100_0' : 1 ≤ (ps_i s100 1131 50).toInt := p100_0
      have r102_k := mf_50 J100
      have r103_k := mf_51 J100
      have u104 : (ps_i s100 1131 51).toInt = (ps_i s 1131 51).toInt := xeq (kp_i K100 51 rfl)
      have r105_k : 0 ≤ (ps_a s100 1152 (Int32.toNatClampNeg x1)).toInt ∧ (ps_a s100 1152 (Int32.toNatClampNeg x1)).toInt ≤ 18 := ma_1152 (i := x1) J100 (show 0 ≤ x1.toInt from by omega) (show x1.toInt < 40 from by omega)
      have u106 : (ps_a s100 1152 (Int32.toNatClampNeg x1)).toInt = (ps_a s 1152 (Int32.toNatClampNeg x1)).toInt := xeq (kp_a K100 1152 rfl _)
      exact ms_257_275 (x1 := x1) (σ := σ) k  ((22468 : Int32) + ((41 : Int32) * x1)) _ J100 K101 hS hC hA hO hM (show 0 ≤ x1.toInt from by omega) (show x1.toInt < 40 from by omega) (show (ps_i s 1131 51).toInt ≤ 100 from by omega) (show (ps_i s100 1131 51).toInt = (ps_i s 1131 51).toInt from by omega) (show (ps_a s100 1152 (Int32.toNatClampNeg x1)).toInt = 16 from by omega) (show ((22468 : Int32) + ((41 : Int32) * x1)).toInt = 22468 + 41 * x1.toInt from by omega)
  · have f107_k : (ps_a s 1134 (Int32.toNatClampNeg ((((0 : Int32) + ((41 : Int32) * (ps_a s 1153 (Int32.toNatClampNeg x1)))) + 1) + 0))).toInt ≠ (6 : Int) := xne h91_k
    refine ms_241 J (show 1 ≤ (2 : Int) from by omega) (show (2 : Int) ≤ 5 from by omega) (fun s108 J108 K108 p108_0 => ?_)
    have K109 := kpt K K108 rfl rfl
    have KC := K108
    have hS : Sg (ps_a s108 1135) (ps_a s108 1136) (ps_a s108 1138) (ps_a s108 1139) (ps_i s108 1131 21).toInt σ := by rw [show ps_a s108 1135 = ps_a s 1135 from (K108.2 1135 rfl).1, show ps_a s108 1136 = ps_a s 1136 from (K108.2 1136 rfl).1, show ps_a s108 1138 = ps_a s 1138 from (K108.2 1138 rfl).1, show ps_a s108 1139 = ps_a s 1139 from (K108.2 1139 rfl).1, show ps_i s108 1131 21 = ps_i s 1131 21 from kp_i K108 21 rfl]; exact hS
    have hC : SC σ (ps_a s108 1134) (ps_a s108 1157) (ps_a s108 1152) (ps_a s108 1153) (ps_a s108 1154) (ps_a s108 1155) (ps_i s108 1131 21).toInt x1.toInt := by rw [show ps_a s108 1134 = ps_a s 1134 from (K108.2 1134 rfl).1, show ps_a s108 1157 = ps_a s 1157 from (K108.2 1157 rfl).1, show ps_a s108 1152 = ps_a s 1152 from (K108.2 1152 rfl).1, show ps_a s108 1153 = ps_a s 1153 from (K108.2 1153 rfl).1, show ps_a s108 1154 = ps_a s 1154 from (K108.2 1154 rfl).1, show ps_a s108 1155 = ps_a s 1155 from (K108.2 1155 rfl).1, show ps_i s108 1131 21 = ps_i s 1131 21 from kp_i K108 21 rfl]; exact hC
    have hA : As σ (ps_a s108 1134) x1.toInt (ps_i s108 1131 51).toInt := by rw [show ps_a s108 1134 = ps_a s 1134 from (K108.2 1134 rfl).1, show ps_i s108 1131 51 = ps_i s 1131 51 from kp_i K108 51 rfl]; exact hA
    have hM : Md (ps_a s108 1149) (ps_i s108 1131 34).toInt ([] : List Nat) := by rw [show ps_a s108 1149 = ps_a s 1149 from (K108.2 1149 rfl).1, show ps_i s108 1131 34 = ps_i s 1131 34 from kp_i K108 34 rfl]; exact hM
    have hO : OutB (ps_a s 1134) (ps_a s108 1134) x1.toInt := by rw [show ps_a s108 1134 = ps_a s 1134 from (K108.2 1134 rfl).1]; exact hO
    have p108_0' : 1 ≤ (ps_i s108 1131 50).toInt := p108_0
    have r110_k := mf_50 J108
    have r111_k := mf_51 J108
    have u112 : (ps_i s108 1131 51).toInt = (ps_i s 1131 51).toInt := xeq (kp_i K108 51 rfl)
    have r113_k : 0 ≤ (ps_a s108 1152 (Int32.toNatClampNeg x1)).toInt ∧ (ps_a s108 1152 (Int32.toNatClampNeg x1)).toInt ≤ 18 := ma_1152 (i := x1) J108 (show 0 ≤ x1.toInt from by omega) (show x1.toInt < 40 from by omega)
    have u114 : (ps_a s108 1152 (Int32.toNatClampNeg x1)).toInt = (ps_a s 1152 (Int32.toNatClampNeg x1)).toInt := xeq (kp_a K108 1152 rfl _)
    exact ms_257_275 (x1 := x1) (σ := σ) k  ((22468 : Int32) + ((41 : Int32) * x1)) _ J108 K109 hS hC hA hO hM (show 0 ≤ x1.toInt from by omega) (show x1.toInt < 40 from by omega) (show (ps_i s 1131 51).toInt ≤ 100 from by omega) (show (ps_i s108 1131 51).toInt = (ps_i s 1131 51).toInt from by omega) (show (ps_a s108 1152 (Int32.toNatClampNeg x1)).toInt = 16 from by omega) (show ((22468 : Int32) + ((41 : Int32) * x1)).toInt = 22468 + 41 * x1.toInt from by omega)
