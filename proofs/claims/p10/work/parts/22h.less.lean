set_option maxRecDepth 100000
-- ProofBenchModel.takesLess(I)V
theorem pg_255_0 {d : Nat} {x1 : Int32} {s : ps_S} {Q : Option Value → ps_S → Prop} (h :
  ps_Cl d 244 [.ref 1131, .int x1] s (ps_rI (fun v1 s1 =>
    ps_nd (pm_in x1 40) (((ps_a s1 1152 (Int32.toNatClampNeg x1)) ≠ 8 →
      ps_nd (pm_in x1 40) (((ps_a s1 1152 (Int32.toNatClampNeg x1)) ≠ 9 →
        ps_nd (pm_in x1 40) (((ps_a s1 1152 (Int32.toNatClampNeg x1)) = 10 →
          ps_At (d + 1) 255 165 [(0, .ref 1131), (1, .int x1), (2, .int v1), (3, .int ((22468 : Int32) + ((41 : Int32) * x1)))] [] s1 Q) ∧
        ((ps_a s1 1152 (Int32.toNatClampNeg x1)) ≠ 10 →
          ps_Cl d 247 [.ref 1131, .int v1] s1 (ps_rI (fun v2 s2 =>
            (v2 = 0 →
              ps_At (d + 1) 255 165 [(0, .ref 1131), (1, .int x1), (2, .int v1), (3, .int ((22468 : Int32) + ((41 : Int32) * x1)))] [] s2 Q) ∧
            (v2 ≠ 0 →
              ps_Cl d 241 [.ref 1131, .int 2] s2 (ps_rV (fun s3 =>
                ps_At (d + 1) 255 165 [(0, .ref 1131), (1, .int x1), (2, .int v1), (3, .int ((22468 : Int32) + ((41 : Int32) * x1)))] [] s3 Q)))))))) ∧
      ((ps_a s1 1152 (Int32.toNatClampNeg x1)) = 9 →
        ps_Cl d 247 [.ref 1131, .int v1] s1 (ps_rI (fun v4 s4 =>
          (v4 ≠ 3 →
            ps_Cl d 226 [.ref 1131, .int v1, .int 1, .int 0] s4 (ps_rV (fun s5 =>
              ((0 : Int32) = 0 →
                ps_At (d + 1) 255 89 [(0, .ref 1131), (1, .int x1), (2, .int v1), (4, .int 0)] [] s5 Q) ∧
              ((0 : Int32) ≠ 0 →
                ps_Cl d 245 [.ref 1131, .int x1] s5 (ps_rI (fun v6 s6 =>
                  ps_Cl d 230 [.ref 1131, .int v6] s6 (ps_rI (fun v7 s7 =>
                    (v7 ≠ 0 →
                      ps_At (d + 1) 255 94 [(0, .ref 1131), (1, .int x1), (2, .int v1), (4, .int 0)] [] s7 Q) ∧
                    (v7 = 0 →
                      ps_At (d + 1) 255 89 [(0, .ref 1131), (1, .int x1), (2, .int v1), (4, .int 0)] [] s7 Q))))))))) ∧
          (v4 = 3 →
            ps_Cl d 221 [.ref 1131, .int v1, .int 1] s4 (ps_rI (fun v8 s8 =>
              ps_Cl d 226 [.ref 1131, .int v1, .int 1, .int v8] s8 (ps_rV (fun s9 =>
                (v8 = 0 →
                  ps_At (d + 1) 255 89 [(0, .ref 1131), (1, .int x1), (2, .int v1), (4, .int v8)] [] s9 Q) ∧
                (v8 ≠ 0 →
                  ps_Cl d 245 [.ref 1131, .int x1] s9 (ps_rI (fun v10 s10 =>
                    ps_Cl d 230 [.ref 1131, .int v10] s10 (ps_rI (fun v11 s11 =>
                      (v11 ≠ 0 →
                        ps_At (d + 1) 255 94 [(0, .ref 1131), (1, .int x1), (2, .int v1), (4, .int v8)] [] s11 Q) ∧
                      (v11 = 0 →
                        ps_At (d + 1) 255 89 [(0, .ref 1131), (1, .int x1), (2, .int v1), (4, .int v8)] [] s11 Q)))))))))))))))) ∧
    ((ps_a s1 1152 (Int32.toNatClampNeg x1)) = 8 →
      ps_Cl d 256 [.ref 1131, .int x1] s1 (ps_rV (fun s12 =>
        Q none s12))))))) : ps_At (d + 1) 255 0 [(0, .ref 1131), (1, .int x1)] [] s Q :=
  ps_wp_at (stops := [(89, [0, 1, 2, 4]), (94, [0, 1, 2, 4]), (116, [0, 1]), (165, [0, 1, 2, 3]), (181, [0, 1, 2, 3]), (207, [0, 1, 2, 3]), (255, [0, 1, 2, 3])]) (n := 80) h rfl

theorem pg_255_89 {d : Nat} {x1 : Int32} {x2 : Int32} {x4 : Int32} {s : ps_S} {Q : Option Value → ps_S → Prop} (h :
  ps_Cl d 241 [.ref 1131, .int 2] s (ps_rV (fun s1 =>
    ps_At (d + 1) 255 94 [(0, .ref 1131), (1, .int x1), (2, .int x2), (4, .int x4)] [] s1 Q))) : ps_At (d + 1) 255 89 [(0, .ref 1131), (1, .int x1), (2, .int x2), (4, .int x4)] [] s Q :=
  ps_wp_at (stops := [(89, [0, 1, 2, 4]), (94, [0, 1, 2, 4]), (116, [0, 1]), (165, [0, 1, 2, 3]), (181, [0, 1, 2, 3]), (207, [0, 1, 2, 3]), (255, [0, 1, 2, 3])]) (n := 5) h rfl

theorem pg_255_94 {d : Nat} {x1 : Int32} {x2 : Int32} {x4 : Int32} {s : ps_S} {Q : Option Value → ps_S → Prop} (h :
  (x4 ≤ 0 →
    ps_At (d + 1) 255 116 [(0, .ref 1131), (1, .int x1)] [] (ps_ui s 1131 34 0) Q) ∧
  (0 < x4 →
    ps_Cl d 219 [.ref 1131, .int x2] (ps_ui s 1131 34 0) (ps_rI (fun v1 s1 =>
      ps_Cl d 226 [.ref 1131, .int x2, .int x4, .int v1] s1 (ps_rV (fun s2 =>
        ps_At (d + 1) 255 116 [(0, .ref 1131), (1, .int x1)] [] s2 Q)))))) : ps_At (d + 1) 255 94 [(0, .ref 1131), (1, .int x1), (2, .int x2), (4, .int x4)] [] s Q :=
  ps_wp_at (stops := [(89, [0, 1, 2, 4]), (94, [0, 1, 2, 4]), (116, [0, 1]), (165, [0, 1, 2, 3]), (181, [0, 1, 2, 3]), (207, [0, 1, 2, 3]), (255, [0, 1, 2, 3])]) (n := 14) h rfl

theorem pg_255_116 {d : Nat} {x1 : Int32} {s : ps_S} {Q : Option Value → ps_S → Prop} (h :
  ps_nd (pm_in x1 40) (ps_Cl d 249 [.ref 1131, .int x1, .int (ps_a s 1153 (Int32.toNatClampNeg x1)), .int 0] s (ps_rV (fun s1 =>
    ps_nd (pm_in x1 40) (ps_Cl d 249 [.ref 1131, .int x1, .int (ps_a s1 1154 (Int32.toNatClampNeg x1)), .int 0] s1 (ps_rV (fun s2 =>
      Q none s2))))))) : ps_At (d + 1) 255 116 [(0, .ref 1131), (1, .int x1)] [] s Q :=
  ps_wp_at (stops := [(89, [0, 1, 2, 4]), (94, [0, 1, 2, 4]), (116, [0, 1]), (165, [0, 1, 2, 3]), (181, [0, 1, 2, 3]), (207, [0, 1, 2, 3]), (255, [0, 1, 2, 3])]) (n := 19) h rfl

theorem pg_255_165 {d : Nat} {x1 : Int32} {x2 : Int32} {x3 : Int32} {s : ps_S} {Q : Option Value → ps_S → Prop} (h :
  ps_nd (pm_in x1 40) (((ps_a s 1152 (Int32.toNatClampNeg x1)) ≠ 10 →
    ps_At (d + 1) 255 181 [(0, .ref 1131), (1, .int x1), (2, .int x2), (3, .int x3)] [] s Q) ∧
  ((ps_a s 1152 (Int32.toNatClampNeg x1)) = 10 →
    ps_Cl d 227 [.ref 1131, .int x3] s (ps_rV (fun s1 =>
      ps_At (d + 1) 255 181 [(0, .ref 1131), (1, .int x1), (2, .int x2), (3, .int x3)] [] s1 Q))))) : ps_At (d + 1) 255 165 [(0, .ref 1131), (1, .int x1), (2, .int x2), (3, .int x3)] [] s Q :=
  ps_wp_at (stops := [(89, [0, 1, 2, 4]), (94, [0, 1, 2, 4]), (116, [0, 1]), (165, [0, 1, 2, 3]), (181, [0, 1, 2, 3]), (207, [0, 1, 2, 3]), (255, [0, 1, 2, 3])]) (n := 11) h rfl

theorem pg_255_181 {d : Nat} {x1 : Int32} {x2 : Int32} {x3 : Int32} {s : ps_S} {Q : Option Value → ps_S → Prop} (h :
  ps_nd (pm_in x1 40) (((ps_a s 1152 (Int32.toNatClampNeg x1)) ≠ 18 →
    ps_At (d + 1) 255 207 [(0, .ref 1131), (1, .int x1), (2, .int x2), (3, .int x3)] [] s Q) ∧
  ((ps_a s 1152 (Int32.toNatClampNeg x1)) = 18 →
    ps_Cl d 225 [.ref 1131, .int 3] s (ps_rV (fun s1 =>
      ps_Cl d 227 [.ref 1131, .int x3] s1 (ps_rV (fun s2 =>
        ps_Cl d 225 [.ref 1131, .int 0] s2 (ps_rV (fun s3 =>
          ps_At (d + 1) 255 207 [(0, .ref 1131), (1, .int x1), (2, .int x2), (3, .int x3)] [] s3 Q))))))))) : ps_At (d + 1) 255 181 [(0, .ref 1131), (1, .int x1), (2, .int x2), (3, .int x3)] [] s Q :=
  ps_wp_at (stops := [(89, [0, 1, 2, 4]), (94, [0, 1, 2, 4]), (116, [0, 1]), (165, [0, 1, 2, 3]), (181, [0, 1, 2, 3]), (207, [0, 1, 2, 3]), (255, [0, 1, 2, 3])]) (n := 17) h rfl

theorem pg_255_207 {d : Nat} {x1 : Int32} {x2 : Int32} {x3 : Int32} {s : ps_S} {Q : Option Value → ps_S → Prop} (h :
  ps_nd (pm_in x1 40) (ps_nd (pm_in x1 40) (((ps_a s 1152 (Int32.toNatClampNeg x1)) = 17 →
    ps_Cl d 249 [.ref 1131, .int x1, .int (ps_a s 1153 (Int32.toNatClampNeg x1)), .int 0] s (ps_rV (fun s1 =>
      ps_nd (pm_in x1 40) (((ps_a (ps_ui s1 1131 34 0) 1152 (Int32.toNatClampNeg x1)) ≠ 10 →
        ps_At (d + 1) 255 255 [(0, .ref 1131), (1, .int x1), (2, .int x2), (3, .int x3)] [] (ps_ui s1 1131 34 0) Q) ∧
      ((ps_a (ps_ui s1 1131 34 0) 1152 (Int32.toNatClampNeg x1)) = 10 →
        ps_Cl d 225 [.ref 1131, .int 3] (ps_ui s1 1131 34 0) (ps_rV (fun s2 =>
          ps_At (d + 1) 255 255 [(0, .ref 1131), (1, .int x1), (2, .int x2), (3, .int x3)] [] s2 Q))))))) ∧
  ((ps_a s 1152 (Int32.toNatClampNeg x1)) ≠ 17 →
    ps_Cl d 249 [.ref 1131, .int x1, .int (ps_a s 1153 (Int32.toNatClampNeg x1)), .int 1] s (ps_rV (fun s3 =>
      ps_nd (pm_in x1 40) (((ps_a (ps_ui s3 1131 34 0) 1152 (Int32.toNatClampNeg x1)) ≠ 10 →
        ps_At (d + 1) 255 255 [(0, .ref 1131), (1, .int x1), (2, .int x2), (3, .int x3)] [] (ps_ui s3 1131 34 0) Q) ∧
      ((ps_a (ps_ui s3 1131 34 0) 1152 (Int32.toNatClampNeg x1)) = 10 →
        ps_Cl d 225 [.ref 1131, .int 3] (ps_ui s3 1131 34 0) (ps_rV (fun s4 =>
          ps_At (d + 1) 255 255 [(0, .ref 1131), (1, .int x1), (2, .int x2), (3, .int x3)] [] s4 Q)))))))))) : ps_At (d + 1) 255 207 [(0, .ref 1131), (1, .int x1), (2, .int x2), (3, .int x3)] [] s Q :=
  ps_wp_at (stops := [(89, [0, 1, 2, 4]), (94, [0, 1, 2, 4]), (116, [0, 1]), (165, [0, 1, 2, 3]), (181, [0, 1, 2, 3]), (207, [0, 1, 2, 3]), (255, [0, 1, 2, 3])]) (n := 43) h rfl

theorem pg_255_255 {d : Nat} {x1 : Int32} {x2 : Int32} {x3 : Int32} {s : ps_S} {Q : Option Value → ps_S → Prop} (h :
  ps_Cl d 227 [.ref 1131, .int x3] s (ps_rV (fun s1 =>
    ps_nd (pm_in x1 40) (((ps_a s1 1152 (Int32.toNatClampNeg x1)) ≠ 10 →
      Q none s1) ∧
    ((ps_a s1 1152 (Int32.toNatClampNeg x1)) = 10 →
      ps_Cl d 227 [.ref 1131, .int x2] s1 (ps_rV (fun s2 =>
        Q none s2))))))) : ps_At (d + 1) 255 255 [(0, .ref 1131), (1, .int x1), (2, .int x2), (3, .int x3)] [] s Q :=
  ps_wp_at (stops := [(89, [0, 1, 2, 4]), (94, [0, 1, 2, 4]), (116, [0, 1]), (165, [0, 1, 2, 3]), (181, [0, 1, 2, 3]), (207, [0, 1, 2, 3]), (255, [0, 1, 2, 3])]) (n := 16) h rfl

theorem ms_255_116 {x : Nat → Nat → Nat} {t : Int32} {d : Nat} {s0 : ps_S} {σ : mSig} {x1 : Int32} {Q : Option Value → ps_S → Prop} (k : ∀ (s' : ps_S), mJ x t s' → kp [1134, 1149] [34, 50, 51] s0 s' → (As σ (ps_a s' 1134) x1.toInt (ps_i s' 1131 51).toInt) → (OutB (ps_a s0 1134) (ps_a s' 1134) x1.toInt) → ((ps_i s0 1131 51).toInt ≤ (ps_i s' 1131 51).toInt) → ((ps_i s' 1131 51).toInt ≤ (ps_i s0 1131 51).toInt + 36) → (Res σ (ps_a s' 1149) (ps_i s' 1131 34).toInt (ps_i s' 1131 50).toInt) → Q none s') (s : ps_S) (J : mJ x t s) (K : kp [1134, 1149] [34, 50, 51] s0 s) (hS : Sg (ps_a s 1135) (ps_a s 1136) (ps_a s 1138) (ps_a s 1139) (ps_i s 1131 21).toInt σ) (hC : SC σ (ps_a s 1134) (ps_a s 1157) (ps_a s 1152) (ps_a s 1153) (ps_a s 1154) (ps_a s 1155) (ps_i s 1131 21).toInt x1.toInt) (hA : As σ (ps_a s 1134) x1.toInt (ps_i s 1131 51).toInt) (hO : OutB (ps_a s0 1134) (ps_a s 1134) x1.toInt) (i4_k : 0 ≤ x1.toInt) (i5_k : x1.toInt < 40) (i6_k : (ps_i s0 1131 51).toInt ≤ 100) (i7_k : (ps_i s 1131 51).toInt = (ps_i s0 1131 51).toInt) (i8_k : (ps_a s 1152 (Int32.toNatClampNeg x1)).toInt = 9) (hRs : Res σ (ps_a s 1149) (ps_i s 1131 34).toInt (ps_i s 1131 50).toInt) : ps_At (d + 5) 255 116 [(0, .ref 1131), (1, .int x1)] [] s Q := by
  have r1_k := mf_51 J
  have r2_k : 0 ≤ (ps_a s 1152 (Int32.toNatClampNeg x1)).toInt ∧ (ps_a s 1152 (Int32.toNatClampNeg x1)).toInt ≤ 18 := ma_1152 (i := x1) J (show 0 ≤ x1.toInt from by omega) (show x1.toInt < 40 from by omega)
  refine pg_255_116 (d := d + 4) ?_
  have q1_k := SC_l1 hC rfl ⟨by omega, by omega, by omega, by omega⟩
  have q2_k := SC_l2 hC rfl (Or.inr (Or.inl (by omega)))
  have g0 := SC_g0 hC rfl
  refine ps_nd_i (show pm_in x1 40 = true from xgi (show 0 ≤ x1.toInt from by omega) (show x1.toInt < 40 from by omega)) ?_
  have r3_k : -1 ≤ (ps_a s 1153 (Int32.toNatClampNeg x1)).toInt ∧ (ps_a s 1153 (Int32.toNatClampNeg x1)).toInt ≤ 9999 := ma_1153 (i := x1) J (show 0 ≤ x1.toInt from by omega) (show x1.toInt < 40 from by omega)
  refine ms_249 J hA ((SC_p hC)) (show 0 ≤ x1.toInt from by omega) (show x1.toInt < 40 from by omega) (show 0 ≤ (ps_a s 1153 (Int32.toNatClampNeg x1)).toInt from by omega) (show (ps_a s 1153 (Int32.toNatClampNeg x1)).toInt < x1.toInt from by omega) (show (ps_i s 1131 51).toInt ≤ 800 from by omega) (fun s4 J4 K4 p4_0 p4_1 p4_2 p4_3 => ?_)
  have K5 := kpt K K4 rfl rfl
  have KC := K4
  have hS : Sg (ps_a s4 1135) (ps_a s4 1136) (ps_a s4 1138) (ps_a s4 1139) (ps_i s4 1131 21).toInt σ := by rw [show ps_a s4 1135 = ps_a s 1135 from (K4.2 1135 rfl).1, show ps_a s4 1136 = ps_a s 1136 from (K4.2 1136 rfl).1, show ps_a s4 1138 = ps_a s 1138 from (K4.2 1138 rfl).1, show ps_a s4 1139 = ps_a s 1139 from (K4.2 1139 rfl).1, show ps_i s4 1131 21 = ps_i s 1131 21 from kp_i K4 21 rfl]; exact hS
  have hRs : Res σ (ps_a s4 1149) (ps_i s4 1131 34).toInt (ps_i s4 1131 50).toInt := by rw [show ps_a s4 1149 = ps_a s 1149 from (K4.2 1149 rfl).1, show ps_i s4 1131 34 = ps_i s 1131 34 from kp_i K4 34 rfl, show ps_i s4 1131 50 = ps_i s 1131 50 from kp_i K4 50 rfl]; exact hRs
  have p4_2' : (ps_i s 1131 51).toInt ≤ (ps_i s4 1131 51).toInt := p4_2
  have r6_k := mf_51 J4
  have p4_3' : (ps_i s4 1131 51).toInt ≤ (ps_i s 1131 51).toInt + 12 := p4_3
  have hA : As σ (ps_a s4 1134) x1.toInt (ps_i s4 1131 51).toInt := p4_0
  have ho : _ := p4_1
  have hO := OutB_tr hO ho
  have hC : SC σ (ps_a s4 1134) (ps_a s4 1157) (ps_a s4 1152) (ps_a s4 1153) (ps_a s4 1154) (ps_a s4 1155) (ps_i s4 1131 21).toInt x1.toInt := by rw [show ps_a s4 1157 = ps_a s 1157 from (KC.2 1157 rfl).1, show ps_a s4 1152 = ps_a s 1152 from (KC.2 1152 rfl).1, show ps_a s4 1153 = ps_a s 1153 from (KC.2 1153 rfl).1, show ps_a s4 1154 = ps_a s 1154 from (KC.2 1154 rfl).1, show ps_a s4 1155 = ps_a s 1155 from (KC.2 1155 rfl).1, show ps_i s4 1131 21 = ps_i s 1131 21 from kp_i KC 21 rfl]; exact SC_out hC ho
  refine ps_nd_i (show pm_in x1 40 = true from xgi (show 0 ≤ x1.toInt from by omega) (show x1.toInt < 40 from by omega)) ?_
  have r7_k : 0 ≤ (ps_a s4 1154 (Int32.toNatClampNeg x1)).toInt ∧ (ps_a s4 1154 (Int32.toNatClampNeg x1)).toInt ≤ 9999 := ma_1154 (i := x1) J4 (show 0 ≤ x1.toInt from by omega) (show x1.toInt < 40 from by omega)
  have u8 : (ps_a s4 1154 (Int32.toNatClampNeg x1)).toInt = (ps_a s 1154 (Int32.toNatClampNeg x1)).toInt := xeq (kp_a K4 1154 rfl _)
  have r9_k : 0 ≤ (ps_a s 1154 (Int32.toNatClampNeg x1)).toInt ∧ (ps_a s 1154 (Int32.toNatClampNeg x1)).toInt ≤ 9999 := ma_1154 (i := x1) J (show 0 ≤ x1.toInt from by omega) (show x1.toInt < 40 from by omega)
  refine ms_249 J4 hA ((SC_p hC)) (show 0 ≤ x1.toInt from by omega) (show x1.toInt < 40 from by omega) (show 0 ≤ (ps_a s4 1154 (Int32.toNatClampNeg x1)).toInt from by omega) (show (ps_a s4 1154 (Int32.toNatClampNeg x1)).toInt < x1.toInt from by omega) (show (ps_i s4 1131 51).toInt ≤ 800 from by omega) (fun s10 J10 K10 p10_0 p10_1 p10_2 p10_3 => ?_)
  have K11 := kpt K5 K10 rfl rfl
  have KC := K10
  have hS : Sg (ps_a s10 1135) (ps_a s10 1136) (ps_a s10 1138) (ps_a s10 1139) (ps_i s10 1131 21).toInt σ := by rw [show ps_a s10 1135 = ps_a s4 1135 from (K10.2 1135 rfl).1, show ps_a s10 1136 = ps_a s4 1136 from (K10.2 1136 rfl).1, show ps_a s10 1138 = ps_a s4 1138 from (K10.2 1138 rfl).1, show ps_a s10 1139 = ps_a s4 1139 from (K10.2 1139 rfl).1, show ps_i s10 1131 21 = ps_i s4 1131 21 from kp_i K10 21 rfl]; exact hS
  have hRs : Res σ (ps_a s10 1149) (ps_i s10 1131 34).toInt (ps_i s10 1131 50).toInt := by rw [show ps_a s10 1149 = ps_a s4 1149 from (K10.2 1149 rfl).1, show ps_i s10 1131 34 = ps_i s4 1131 34 from kp_i K10 34 rfl, show ps_i s10 1131 50 = ps_i s4 1131 50 from kp_i K10 50 rfl]; exact hRs
  have p10_2' : (ps_i s4 1131 51).toInt ≤ (ps_i s10 1131 51).toInt := p10_2
  have r12_k := mf_51 J10
  have p10_3' : (ps_i s10 1131 51).toInt ≤ (ps_i s4 1131 51).toInt + 12 := p10_3
  have hA : As σ (ps_a s10 1134) x1.toInt (ps_i s10 1131 51).toInt := p10_0
  have ho : _ := p10_1
  have hO := OutB_tr hO ho
  exact k _ J10 K11 hA hO (show (ps_i s0 1131 51).toInt ≤ (ps_i s10 1131 51).toInt from by omega) (show (ps_i s10 1131 51).toInt ≤ (ps_i s0 1131 51).toInt + 36 from by omega) hRs

theorem ms_255_94 {x : Nat → Nat → Nat} {t : Int32} {d : Nat} {s0 : ps_S} {σ : mSig} {x1 : Int32} {Q : Option Value → ps_S → Prop} (k : ∀ (s' : ps_S), mJ x t s' → kp [1134, 1149] [34, 50, 51] s0 s' → (As σ (ps_a s' 1134) x1.toInt (ps_i s' 1131 51).toInt) → (OutB (ps_a s0 1134) (ps_a s' 1134) x1.toInt) → ((ps_i s0 1131 51).toInt ≤ (ps_i s' 1131 51).toInt) → ((ps_i s' 1131 51).toInt ≤ (ps_i s0 1131 51).toInt + 36) → (Res σ (ps_a s' 1149) (ps_i s' 1131 34).toInt (ps_i s' 1131 50).toInt) → Q none s') (x2 : Int32) (x4 : Int32) (s : ps_S) (J : mJ x t s) (K : kp [1134, 1149] [34, 50, 51] s0 s) (hS : Sg (ps_a s 1135) (ps_a s 1136) (ps_a s 1138) (ps_a s 1139) (ps_i s 1131 21).toInt σ) (hC : SC σ (ps_a s 1134) (ps_a s 1157) (ps_a s 1152) (ps_a s 1153) (ps_a s 1154) (ps_a s 1155) (ps_i s 1131 21).toInt x1.toInt) (hA : As σ (ps_a s 1134) x1.toInt (ps_i s 1131 51).toInt) (hO : OutB (ps_a s0 1134) (ps_a s 1134) x1.toInt) (i4_k : 0 ≤ x1.toInt) (i5_k : x1.toInt < 40) (i6_k : (ps_i s0 1131 51).toInt ≤ 100) (i7_k : (ps_i s 1131 51).toInt = (ps_i s0 1131 51).toInt) (i8_k : (ps_a s 1152 (Int32.toNatClampNeg x1)).toInt = 9) (i9_k : x2.toInt = 41 * (ps_a s 1153 (Int32.toNatClampNeg x1)).toInt) (i10_k : (x4.toInt = 0 ∧ 1 ≤ (ps_i s 1131 50).toInt) ∨ (∃ p q : List Nat, Rw (ps_a s 1134) x2.toInt (3 :: (p ++ q)) ∧ ws σ p [true] ∧ ws σ q [true] ∧ x4.toInt = 1 + (p.length : Int))) : ps_At (d + 5) 255 94 [(0, .ref 1131), (1, .int x1), (2, .int x2), (4, .int x4)] [] s Q := by
  have r1_k := mf_51 J
  have r2_k : 0 ≤ (ps_a s 1152 (Int32.toNatClampNeg x1)).toInt ∧ (ps_a s 1152 (Int32.toNatClampNeg x1)).toInt ≤ 18 := ma_1152 (i := x1) J (show 0 ≤ x1.toInt from by omega) (show x1.toInt < 40 from by omega)
  have r3_k : -1 ≤ (ps_a s 1153 (Int32.toNatClampNeg x1)).toInt ∧ (ps_a s 1153 (Int32.toNatClampNeg x1)).toInt ≤ 9999 := ma_1153 (i := x1) J (show 0 ≤ x1.toInt from by omega) (show x1.toInt < 40 from by omega)
  refine pg_255_94 (d := d + 4) ?_
  have J4 := mwi_34 (v := (0 : Int32)) J (show 0 ≤ (0 : Int) from by omega) (show (0 : Int) ≤ 100000 from by omega)
  have K5 := kpi K (q := 34) (v := (0 : Int32)) rfl
  have hM : Md (ps_a (ps_ui s 1131 34 0) 1149) (ps_i (ps_ui s 1131 34 0) 1131 34).toInt ([] : List Nat) := Md_nil rfl
  refine And.intro (fun h6_k => ?_) (fun h6_k => ?_)
  · have f7_k : x4.toInt ≤ (0 : Int) := xle h6_k
    exact ms_255_116 (x1 := x1) (σ := σ) k   _ J4 K5 hS hC hA hO (show 0 ≤ x1.toInt from by omega) (show x1.toInt < 40 from by omega) (show (ps_i s0 1131 51).toInt ≤ 100 from by omega) (show (ps_i s 1131 51).toInt = (ps_i s0 1131 51).toInt from by omega) (show (ps_a s 1152 (Int32.toNatClampNeg x1)).toInt = 9 from by omega) (⟨[], hM, by decide, Or.inr ⟨rfl, (by rcases i10_k with z_k | ⟨p, q, z1_k, z2_k, z3_k, z4_k⟩; exact z_k.2; exact absurd z4_k (by omega))⟩⟩)
  · have f8_k : (0 : Int) < x4.toInt := xlt h6_k
    obtain ⟨p, q, z1_k, z2_k, z3_k, z4_k⟩ : ∃ p q : List Nat, Rw (ps_a s 1134) x2.toInt (3 :: (p ++ q)) ∧ ws σ p [true] ∧ ws σ q [true] ∧ x4.toInt = 1 + (p.length : Int) := by rcases i10_k with z_k | z_k; exact absurd z_k.1 (by omega); exact z_k
    have hlen := z1_k.2.2.2.1
    rw [List.length_cons, List.length_append] at hlen
    have w1 := z1_k.1
    have w2 := z1_k.2.1
    have w3 := z1_k.2.2.1
    refine pg_219_0 ?_
    refine ps_nd_i (show pm_in x2 27400 = true from xgi (show 0 ≤ x2.toInt from by omega) (show x2.toInt < 27400 from by omega)) ?_
    have r9_k : x2.toInt % 41 = 0 → x2.toInt < 27306 → 0 ≤ (ps_a s 1134 (Int32.toNatClampNeg x2)).toInt ∧ (ps_a s 1134 (Int32.toNatClampNeg x2)).toInt ≤ 40 := fun z1_k z2_k => mp_row (i := x2) J z1_k (show 0 ≤ x2.toInt from by omega) z2_k
    refine ms_226 J4 ((show Rw (ps_a (ps_ui s 1131 34 0) 1134) (x2).toInt (([3] ++ p) ++ (q ++ [])) from by rw [List.append_nil, List.append_assoc]; exact z1_k)) (hM) ((by rw [llen]; exact z4_k)) ((Or.inl ((Rw_n z1_k).trans (by simp only [List.length_cons, List.length_append, List.length_nil]; omega)))) ((by rw [List.length_nil]; omega)) (fun s10 J10 K10 p10_0 => ?_)
    have K11 := kpt K5 K10 rfl rfl
    have KC := K10
    have hS : Sg (ps_a s10 1135) (ps_a s10 1136) (ps_a s10 1138) (ps_a s10 1139) (ps_i s10 1131 21).toInt σ := by rw [show ps_a s10 1135 = ps_a (ps_ui s 1131 34 0) 1135 from (K10.2 1135 rfl).1, show ps_a s10 1136 = ps_a (ps_ui s 1131 34 0) 1136 from (K10.2 1136 rfl).1, show ps_a s10 1138 = ps_a (ps_ui s 1131 34 0) 1138 from (K10.2 1138 rfl).1, show ps_a s10 1139 = ps_a (ps_ui s 1131 34 0) 1139 from (K10.2 1139 rfl).1, show ps_i s10 1131 21 = ps_i (ps_ui s 1131 34 0) 1131 21 from kp_i K10 21 rfl]; exact hS
    have hC : SC σ (ps_a s10 1134) (ps_a s10 1157) (ps_a s10 1152) (ps_a s10 1153) (ps_a s10 1154) (ps_a s10 1155) (ps_i s10 1131 21).toInt x1.toInt := by rw [show ps_a s10 1134 = ps_a (ps_ui s 1131 34 0) 1134 from (K10.2 1134 rfl).1, show ps_a s10 1157 = ps_a (ps_ui s 1131 34 0) 1157 from (K10.2 1157 rfl).1, show ps_a s10 1152 = ps_a (ps_ui s 1131 34 0) 1152 from (K10.2 1152 rfl).1, show ps_a s10 1153 = ps_a (ps_ui s 1131 34 0) 1153 from (K10.2 1153 rfl).1, show ps_a s10 1154 = ps_a (ps_ui s 1131 34 0) 1154 from (K10.2 1154 rfl).1, show ps_a s10 1155 = ps_a (ps_ui s 1131 34 0) 1155 from (K10.2 1155 rfl).1, show ps_i s10 1131 21 = ps_i (ps_ui s 1131 34 0) 1131 21 from kp_i K10 21 rfl]; exact hC
    have hA : As σ (ps_a s10 1134) x1.toInt (ps_i s10 1131 51).toInt := by rw [show ps_a s10 1134 = ps_a (ps_ui s 1131 34 0) 1134 from (K10.2 1134 rfl).1, show ps_i s10 1131 51 = ps_i (ps_ui s 1131 34 0) 1131 51 from kp_i K10 51 rfl]; exact hA
    have hO : OutB (ps_a s0 1134) (ps_a s10 1134) x1.toInt := by rw [show ps_a s10 1134 = ps_a (ps_ui s 1131 34 0) 1134 from (K10.2 1134 rfl).1]; exact hO
    have hM1 : _ := p10_0
    have r12_k := mf_51 J10
    have u13 : (ps_i s10 1131 51).toInt = (ps_i s 1131 51).toInt := xeq (kp_i K10 51 rfl)
    have r14_k : 0 ≤ (ps_a s10 1152 (Int32.toNatClampNeg x1)).toInt ∧ (ps_a s10 1152 (Int32.toNatClampNeg x1)).toInt ≤ 18 := ma_1152 (i := x1) J10 (show 0 ≤ x1.toInt from by omega) (show x1.toInt < 40 from by omega)
    have u15 : (ps_a s10 1152 (Int32.toNatClampNeg x1)).toInt = (ps_a s 1152 (Int32.toNatClampNeg x1)).toInt := xeq (kp_a K10 1152 rfl _)
    exact ms_255_116 (x1 := x1) (σ := σ) k   _ J10 K11 hS hC hA hO (show 0 ≤ x1.toInt from by omega) (show x1.toInt < 40 from by omega) (show (ps_i s0 1131 51).toInt ≤ 100 from by omega) (show (ps_i s10 1131 51).toInt = (ps_i s0 1131 51).toInt from by omega) (show (ps_a s10 1152 (Int32.toNatClampNeg x1)).toInt = 9 from by omega) (⟨_, hM1, by rw [List.nil_append]; omega, Or.inl z3_k⟩)

theorem ms_255_89 {x : Nat → Nat → Nat} {t : Int32} {d : Nat} {s0 : ps_S} {σ : mSig} {x1 : Int32} {Q : Option Value → ps_S → Prop} (k : ∀ (s' : ps_S), mJ x t s' → kp [1134, 1149] [34, 50, 51] s0 s' → (As σ (ps_a s' 1134) x1.toInt (ps_i s' 1131 51).toInt) → (OutB (ps_a s0 1134) (ps_a s' 1134) x1.toInt) → ((ps_i s0 1131 51).toInt ≤ (ps_i s' 1131 51).toInt) → ((ps_i s' 1131 51).toInt ≤ (ps_i s0 1131 51).toInt + 36) → (Res σ (ps_a s' 1149) (ps_i s' 1131 34).toInt (ps_i s' 1131 50).toInt) → Q none s') (x2 : Int32) (x4 : Int32) (s : ps_S) (J : mJ x t s) (K : kp [1134, 1149] [34, 50, 51] s0 s) (hS : Sg (ps_a s 1135) (ps_a s 1136) (ps_a s 1138) (ps_a s 1139) (ps_i s 1131 21).toInt σ) (hC : SC σ (ps_a s 1134) (ps_a s 1157) (ps_a s 1152) (ps_a s 1153) (ps_a s 1154) (ps_a s 1155) (ps_i s 1131 21).toInt x1.toInt) (hA : As σ (ps_a s 1134) x1.toInt (ps_i s 1131 51).toInt) (hO : OutB (ps_a s0 1134) (ps_a s 1134) x1.toInt) (i4_k : 0 ≤ x1.toInt) (i5_k : x1.toInt < 40) (i6_k : (ps_i s0 1131 51).toInt ≤ 100) (i7_k : (ps_i s 1131 51).toInt = (ps_i s0 1131 51).toInt) (i8_k : (ps_a s 1152 (Int32.toNatClampNeg x1)).toInt = 9) (i9_k : x2.toInt = 41 * (ps_a s 1153 (Int32.toNatClampNeg x1)).toInt) (i10_k : (x4.toInt = 0) ∨ (∃ p q : List Nat, Rw (ps_a s 1134) x2.toInt (3 :: (p ++ q)) ∧ ws σ p [true] ∧ ws σ q [true] ∧ x4.toInt = 1 + (p.length : Int))) : ps_At (d + 5) 255 89 [(0, .ref 1131), (1, .int x1), (2, .int x2), (4, .int x4)] [] s Q := by
  have r1_k := mf_51 J
  have r2_k : 0 ≤ (ps_a s 1152 (Int32.toNatClampNeg x1)).toInt ∧ (ps_a s 1152 (Int32.toNatClampNeg x1)).toInt ≤ 18 := ma_1152 (i := x1) J (show 0 ≤ x1.toInt from by omega) (show x1.toInt < 40 from by omega)
  have r3_k : -1 ≤ (ps_a s 1153 (Int32.toNatClampNeg x1)).toInt ∧ (ps_a s 1153 (Int32.toNatClampNeg x1)).toInt ≤ 9999 := ma_1153 (i := x1) J (show 0 ≤ x1.toInt from by omega) (show x1.toInt < 40 from by omega)
  refine pg_255_89 (d := d + 4) ?_
  refine ms_241 J (show 1 ≤ (2 : Int) from by omega) (show (2 : Int) ≤ 5 from by omega) (fun s4 J4 K4 p4_0 => ?_)
  have K5 := kpt K K4 rfl rfl
  have KC := K4
  have hS : Sg (ps_a s4 1135) (ps_a s4 1136) (ps_a s4 1138) (ps_a s4 1139) (ps_i s4 1131 21).toInt σ := by rw [show ps_a s4 1135 = ps_a s 1135 from (K4.2 1135 rfl).1, show ps_a s4 1136 = ps_a s 1136 from (K4.2 1136 rfl).1, show ps_a s4 1138 = ps_a s 1138 from (K4.2 1138 rfl).1, show ps_a s4 1139 = ps_a s 1139 from (K4.2 1139 rfl).1, show ps_i s4 1131 21 = ps_i s 1131 21 from kp_i K4 21 rfl]; exact hS
  have hC : SC σ (ps_a s4 1134) (ps_a s4 1157) (ps_a s4 1152) (ps_a s4 1153) (ps_a s4 1154) (ps_a s4 1155) (ps_i s4 1131 21).toInt x1.toInt := by rw [show ps_a s4 1134 = ps_a s 1134 from (K4.2 1134 rfl).1, show ps_a s4 1157 = ps_a s 1157 from (K4.2 1157 rfl).1, show ps_a s4 1152 = ps_a s 1152 from (K4.2 1152 rfl).1, show ps_a s4 1153 = ps_a s 1153 from (K4.2 1153 rfl).1, show ps_a s4 1154 = ps_a s 1154 from (K4.2 1154 rfl).1, show ps_a s4 1155 = ps_a s 1155 from (K4.2 1155 rfl).1, show ps_i s4 1131 21 = ps_i s 1131 21 from kp_i K4 21 rfl]; exact hC
  have hA : As σ (ps_a s4 1134) x1.toInt (ps_i s4 1131 51).toInt := by rw [show ps_a s4 1134 = ps_a s 1134 from (K4.2 1134 rfl).1, show ps_i s4 1131 51 = ps_i s 1131 51 from kp_i K4 51 rfl]; exact hA
  have hO : OutB (ps_a s0 1134) (ps_a s4 1134) x1.toInt := by rw [show ps_a s4 1134 = ps_a s 1134 from (K4.2 1134 rfl).1]; exact hO
  have p4_0' : 1 ≤ (ps_i s4 1131 50).toInt := p4_0
  have r6_k := mf_50 J4
  have r7_k := mf_51 J4
  have u8 : (ps_i s4 1131 51).toInt = (ps_i s 1131 51).toInt := xeq (kp_i K4 51 rfl)
  have r9_k : 0 ≤ (ps_a s4 1152 (Int32.toNatClampNeg x1)).toInt ∧ (ps_a s4 1152 (Int32.toNatClampNeg x1)).toInt ≤ 18 := ma_1152 (i := x1) J4 (show 0 ≤ x1.toInt from by omega) (show x1.toInt < 40 from by omega)
  have u10 : (ps_a s4 1152 (Int32.toNatClampNeg x1)).toInt = (ps_a s 1152 (Int32.toNatClampNeg x1)).toInt := xeq (kp_a K4 1152 rfl _)
  have r11_k : -1 ≤ (ps_a s4 1153 (Int32.toNatClampNeg x1)).toInt ∧ (ps_a s4 1153 (Int32.toNatClampNeg x1)).toInt ≤ 9999 := ma_1153 (i := x1) J4 (show 0 ≤ x1.toInt from by omega) (show x1.toInt < 40 from by omega)
  have u12 : (ps_a s4 1153 (Int32.toNatClampNeg x1)).toInt = (ps_a s 1153 (Int32.toNatClampNeg x1)).toInt := xeq (kp_a K4 1153 rfl _)
  exact ms_255_94 (x1 := x1) (σ := σ) k  x2 x4 _ J4 K5 hS hC hA hO (show 0 ≤ x1.toInt from by omega) (show x1.toInt < 40 from by omega) (show (ps_i s0 1131 51).toInt ≤ 100 from by omega) (show (ps_i s4 1131 51).toInt = (ps_i s0 1131 51).toInt from by omega) (show (ps_a s4 1152 (Int32.toNatClampNeg x1)).toInt = 9 from by omega) (show x2.toInt = 41 * (ps_a s4 1153 (Int32.toNatClampNeg x1)).toInt from by omega) ((by rcases i10_k with z_k | ⟨p, q, z1_k, z2_k, z3_k, z4_k⟩; exact Or.inl ⟨z_k, show 1 ≤ (ps_i s4 1131 50).toInt from by omega⟩; exact Or.inr ⟨p, q, (by rw [show ps_a s4 1134 = ps_a s 1134 from (KC.2 1134 rfl).1]; exact z1_k), z2_k, z3_k, z4_k⟩))

theorem ms_255_255 {x : Nat → Nat → Nat} {t : Int32} {d : Nat} {s0 : ps_S} {σ : mSig} {x1 : Int32} {Q : Option Value → ps_S → Prop} (k : ∀ (s' : ps_S), mJ x t s' → kp [1134, 1149] [34, 50, 51] s0 s' → (As σ (ps_a s' 1134) x1.toInt (ps_i s' 1131 51).toInt) → (OutB (ps_a s0 1134) (ps_a s' 1134) x1.toInt) → ((ps_i s0 1131 51).toInt ≤ (ps_i s' 1131 51).toInt) → ((ps_i s' 1131 51).toInt ≤ (ps_i s0 1131 51).toInt + 36) → (Res σ (ps_a s' 1149) (ps_i s' 1131 34).toInt (ps_i s' 1131 50).toInt) → Q none s') (x2 : Int32) (x3 : Int32) (s : ps_S) (J : mJ x t s) (K : kp [1134, 1149] [34, 50, 51] s0 s) (hS : Sg (ps_a s 1135) (ps_a s 1136) (ps_a s 1138) (ps_a s 1139) (ps_i s 1131 21).toInt σ) (hC : SC σ (ps_a s 1134) (ps_a s 1157) (ps_a s 1152) (ps_a s 1153) (ps_a s 1154) (ps_a s 1155) (ps_i s 1131 21).toInt x1.toInt) (hA : As σ (ps_a s 1134) x1.toInt (ps_i s 1131 51).toInt) (hO : OutB (ps_a s0 1134) (ps_a s 1134) x1.toInt) (i4_k : 0 ≤ x1.toInt) (i5_k : x1.toInt < 40) (i6_k : (ps_i s0 1131 51).toInt ≤ 100) (i7_k : (ps_i s0 1131 51).toInt ≤ (ps_i s 1131 51).toInt) (i8_k : (ps_i s 1131 51).toInt ≤ (ps_i s0 1131 51).toInt + 12) (i9_k : (ps_a s 1152 (Int32.toNatClampNeg x1)).toInt = 10 ∨ (ps_a s 1152 (Int32.toNatClampNeg x1)).toInt = 17 ∨ (ps_a s 1152 (Int32.toNatClampNeg x1)).toInt = 18) (i10_k : x2.toInt = 41 * (ps_a s 1153 (Int32.toNatClampNeg x1)).toInt) (i11_k : x3.toInt = 22468 + 41 * x1.toInt) (i12_k : ∃ ml, Md (ps_a s 1149) (ps_i s 1131 34).toInt ml ∧ ml.length ≤ 5 ∧ ((ps_a s 1152 (Int32.toNatClampNeg x1)).toInt = 10 → ∀ m : List Nat, ws σ m [true, true] → ws σ (ml ++ m) [true]) ∧ ((ps_a s 1152 (Int32.toNatClampNeg x1)).toInt ≠ 10 → ml = [])) : ps_At (d + 5) 255 255 [(0, .ref 1131), (1, .int x1), (2, .int x2), (3, .int x3)] [] s Q := by
  have r1_k := mf_51 J
  have r2_k : 0 ≤ (ps_a s 1152 (Int32.toNatClampNeg x1)).toInt ∧ (ps_a s 1152 (Int32.toNatClampNeg x1)).toInt ≤ 18 := ma_1152 (i := x1) J (show 0 ≤ x1.toInt from by omega) (show x1.toInt < 40 from by omega)
  have r3_k : -1 ≤ (ps_a s 1153 (Int32.toNatClampNeg x1)).toInt ∧ (ps_a s 1153 (Int32.toNatClampNeg x1)).toInt ≤ 9999 := ma_1153 (i := x1) J (show 0 ≤ x1.toInt from by omega) (show x1.toInt < 40 from by omega)
  refine pg_255_255 (d := d + 4) ?_
  obtain ⟨ml, hm1, hm2, hm3, hm4⟩ := i12_k
  have hB := SC_1i hC rfl ⟨by omega, by omega, by omega, by omega⟩
  obtain ⟨l, hl1, hl2⟩ := SC_f (j := x3) hC rfl (by omega) (by omega)
  have hlen := hl1.2.2.2.1
  refine ms_227 J (hl1) (hm1) ((by omega)) (fun s4 J4 K4 p4_0 => ?_)
  have K5 := kpt K K4 rfl rfl
  have KC := K4
  have hS : Sg (ps_a s4 1135) (ps_a s4 1136) (ps_a s4 1138) (ps_a s4 1139) (ps_i s4 1131 21).toInt σ := by rw [show ps_a s4 1135 = ps_a s 1135 from (K4.2 1135 rfl).1, show ps_a s4 1136 = ps_a s 1136 from (K4.2 1136 rfl).1, show ps_a s4 1138 = ps_a s 1138 from (K4.2 1138 rfl).1, show ps_a s4 1139 = ps_a s 1139 from (K4.2 1139 rfl).1, show ps_i s4 1131 21 = ps_i s 1131 21 from kp_i K4 21 rfl]; exact hS
  have hC : SC σ (ps_a s4 1134) (ps_a s4 1157) (ps_a s4 1152) (ps_a s4 1153) (ps_a s4 1154) (ps_a s4 1155) (ps_i s4 1131 21).toInt x1.toInt := by rw [show ps_a s4 1134 = ps_a s 1134 from (K4.2 1134 rfl).1, show ps_a s4 1157 = ps_a s 1157 from (K4.2 1157 rfl).1, show ps_a s4 1152 = ps_a s 1152 from (K4.2 1152 rfl).1, show ps_a s4 1153 = ps_a s 1153 from (K4.2 1153 rfl).1, show ps_a s4 1154 = ps_a s 1154 from (K4.2 1154 rfl).1, show ps_a s4 1155 = ps_a s 1155 from (K4.2 1155 rfl).1, show ps_i s4 1131 21 = ps_i s 1131 21 from kp_i K4 21 rfl]; exact hC
  have hA : As σ (ps_a s4 1134) x1.toInt (ps_i s4 1131 51).toInt := by rw [show ps_a s4 1134 = ps_a s 1134 from (K4.2 1134 rfl).1, show ps_i s4 1131 51 = ps_i s 1131 51 from kp_i K4 51 rfl]; exact hA
  have hO : OutB (ps_a s0 1134) (ps_a s4 1134) x1.toInt := by rw [show ps_a s4 1134 = ps_a s 1134 from (K4.2 1134 rfl).1]; exact hO
  have hB : Fm σ (ps_a s4 1134) ((41 * (ps_a s 1153 (Int32.toNatClampNeg x1)).toInt)) := by rw [show ps_a s4 1134 = ps_a s 1134 from (K4.2 1134 rfl).1]; exact hB
  have hM2 : Md (ps_a s4 1149) (ps_i s4 1131 34).toInt (ml ++ l) := p4_0
  refine ps_nd_i (show pm_in x1 40 = true from xgi (show 0 ≤ x1.toInt from by omega) (show x1.toInt < 40 from by omega)) ?_
  have r6_k : 0 ≤ (ps_a s4 1152 (Int32.toNatClampNeg x1)).toInt ∧ (ps_a s4 1152 (Int32.toNatClampNeg x1)).toInt ≤ 18 := ma_1152 (i := x1) J4 (show 0 ≤ x1.toInt from by omega) (show x1.toInt < 40 from by omega)
  have u7 : (ps_a s4 1152 (Int32.toNatClampNeg x1)).toInt = (ps_a s 1152 (Int32.toNatClampNeg x1)).toInt := xeq (kp_a K4 1152 rfl _)
  refine And.intro (fun h8_k => ?_) (fun h8_k => ?_)
  · have f9_k : (ps_a s4 1152 (Int32.toNatClampNeg x1)).toInt ≠ (10 : Int) := xne h8_k
    have r10_k := mf_51 J4
    have u11 : (ps_i s4 1131 51).toInt = (ps_i s 1131 51).toInt := xeq (kp_i K4 51 rfl)
    exact k _ J4 K5 hA hO (show (ps_i s0 1131 51).toInt ≤ (ps_i s4 1131 51).toInt from by omega) (show (ps_i s4 1131 51).toInt ≤ (ps_i s0 1131 51).toInt + 36 from by omega) ((by first | exact ⟨_, hM3, by simp only [List.length_append]; omega, Or.inl (by rw [List.append_assoc]; exact hm3 (by omega) (l ++ la) (ws_app (W1 := [true]) (W2 := [true]) (wf_ws hl2) (wf_ws hla2)))⟩ | exact ⟨_, hM2, by simp only [List.length_append]; omega, Or.inl (by rw [hm4 (by omega)]; exact wf_ws hl2)⟩))
  · have f12_k : (ps_a s4 1152 (Int32.toNatClampNeg x1)).toInt = (10 : Int) := xeq h8_k
    obtain ⟨la, hla1, hla2⟩ := id hB
    have hlen2 := hla1.2.2.2.1
    refine ms_227 J4 ((show Rw (ps_a s4 1134) (x2).toInt la from by rw [show (x2).toInt = (41 * (ps_a s 1153 (Int32.toNatClampNeg x1)).toInt) from by omega]; exact hla1)) (hM2) ((by rw [List.length_append]; omega)) (fun s13 J13 K13 p13_0 => ?_)
    have K14 := kpt K5 K13 rfl rfl
    have KC := K13
    have hS : Sg (ps_a s13 1135) (ps_a s13 1136) (ps_a s13 1138) (ps_a s13 1139) (ps_i s13 1131 21).toInt σ := by rw [show ps_a s13 1135 = ps_a s4 1135 from (K13.2 1135 rfl).1, show ps_a s13 1136 = ps_a s4 1136 from (K13.2 1136 rfl).1, show ps_a s13 1138 = ps_a s4 1138 from (K13.2 1138 rfl).1, show ps_a s13 1139 = ps_a s4 1139 from (K13.2 1139 rfl).1, show ps_i s13 1131 21 = ps_i s4 1131 21 from kp_i K13 21 rfl]; exact hS
    have hC : SC σ (ps_a s13 1134) (ps_a s13 1157) (ps_a s13 1152) (ps_a s13 1153) (ps_a s13 1154) (ps_a s13 1155) (ps_i s13 1131 21).toInt x1.toInt := by rw [show ps_a s13 1134 = ps_a s4 1134 from (K13.2 1134 rfl).1, show ps_a s13 1157 = ps_a s4 1157 from (K13.2 1157 rfl).1, show ps_a s13 1152 = ps_a s4 1152 from (K13.2 1152 rfl).1, show ps_a s13 1153 = ps_a s4 1153 from (K13.2 1153 rfl).1, show ps_a s13 1154 = ps_a s4 1154 from (K13.2 1154 rfl).1, show ps_a s13 1155 = ps_a s4 1155 from (K13.2 1155 rfl).1, show ps_i s13 1131 21 = ps_i s4 1131 21 from kp_i K13 21 rfl]; exact hC
    have hA : As σ (ps_a s13 1134) x1.toInt (ps_i s13 1131 51).toInt := by rw [show ps_a s13 1134 = ps_a s4 1134 from (K13.2 1134 rfl).1, show ps_i s13 1131 51 = ps_i s4 1131 51 from kp_i K13 51 rfl]; exact hA
    have hO : OutB (ps_a s0 1134) (ps_a s13 1134) x1.toInt := by rw [show ps_a s13 1134 = ps_a s4 1134 from (K13.2 1134 rfl).1]; exact hO
    have hB : Fm σ (ps_a s13 1134) ((41 * (ps_a s 1153 (Int32.toNatClampNeg x1)).toInt)) := by rw [show ps_a s13 1134 = ps_a s4 1134 from (K13.2 1134 rfl).1]; exact hB
    have hM3 : Md (ps_a s13 1149) (ps_i s13 1131 34).toInt ((ml ++ l) ++ la) := p13_0
    have r15_k := mf_51 J13
    have u16 : (ps_i s13 1131 51).toInt = (ps_i s4 1131 51).toInt := xeq (kp_i K13 51 rfl)
    have r17_k := mf_51 J4
    have u18 : (ps_i s4 1131 51).toInt = (ps_i s 1131 51).toInt := xeq (kp_i K4 51 rfl)
    exact k _ J13 K14 hA hO (show (ps_i s0 1131 51).toInt ≤ (ps_i s13 1131 51).toInt from by omega) (show (ps_i s13 1131 51).toInt ≤ (ps_i s0 1131 51).toInt + 36 from by omega) ((by first | exact ⟨_, hM3, by simp only [List.length_append]; omega, Or.inl (by rw [List.append_assoc]; exact hm3 (by omega) (l ++ la) (ws_app (W1 := [true]) (W2 := [true]) (wf_ws hl2) (wf_ws hla2)))⟩ | exact ⟨_, hM2, by simp only [List.length_append]; omega, Or.inl (by rw [hm4 (by omega)]; exact wf_ws hl2)⟩))

theorem ms_255_207 {x : Nat → Nat → Nat} {t : Int32} {d : Nat} {s0 : ps_S} {σ : mSig} {x1 : Int32} {Q : Option Value → ps_S → Prop} (k : ∀ (s' : ps_S), mJ x t s' → kp [1134, 1149] [34, 50, 51] s0 s' → (As σ (ps_a s' 1134) x1.toInt (ps_i s' 1131 51).toInt) → (OutB (ps_a s0 1134) (ps_a s' 1134) x1.toInt) → ((ps_i s0 1131 51).toInt ≤ (ps_i s' 1131 51).toInt) → ((ps_i s' 1131 51).toInt ≤ (ps_i s0 1131 51).toInt + 36) → (Res σ (ps_a s' 1149) (ps_i s' 1131 34).toInt (ps_i s' 1131 50).toInt) → Q none s') (x2 : Int32) (x3 : Int32) (s : ps_S) (J : mJ x t s) (K : kp [1134, 1149] [34, 50, 51] s0 s) (hS : Sg (ps_a s 1135) (ps_a s 1136) (ps_a s 1138) (ps_a s 1139) (ps_i s 1131 21).toInt σ) (hC : SC σ (ps_a s 1134) (ps_a s 1157) (ps_a s 1152) (ps_a s 1153) (ps_a s 1154) (ps_a s 1155) (ps_i s 1131 21).toInt x1.toInt) (hA : As σ (ps_a s 1134) x1.toInt (ps_i s 1131 51).toInt) (hO : OutB (ps_a s0 1134) (ps_a s 1134) x1.toInt) (i4_k : 0 ≤ x1.toInt) (i5_k : x1.toInt < 40) (i6_k : (ps_i s0 1131 51).toInt ≤ 100) (i7_k : (ps_i s 1131 51).toInt = (ps_i s0 1131 51).toInt) (i8_k : (ps_a s 1152 (Int32.toNatClampNeg x1)).toInt = 10 ∨ (ps_a s 1152 (Int32.toNatClampNeg x1)).toInt = 17 ∨ (ps_a s 1152 (Int32.toNatClampNeg x1)).toInt = 18) (i9_k : x2.toInt = 41 * (ps_a s 1153 (Int32.toNatClampNeg x1)).toInt) (i10_k : x3.toInt = 22468 + 41 * x1.toInt) : ps_At (d + 5) 255 207 [(0, .ref 1131), (1, .int x1), (2, .int x2), (3, .int x3)] [] s Q := by
  have r1_k := mf_51 J
  have r2_k : 0 ≤ (ps_a s 1152 (Int32.toNatClampNeg x1)).toInt ∧ (ps_a s 1152 (Int32.toNatClampNeg x1)).toInt ≤ 18 := ma_1152 (i := x1) J (show 0 ≤ x1.toInt from by omega) (show x1.toInt < 40 from by omega)
  have r3_k : -1 ≤ (ps_a s 1153 (Int32.toNatClampNeg x1)).toInt ∧ (ps_a s 1153 (Int32.toNatClampNeg x1)).toInt ≤ 9999 := ma_1153 (i := x1) J (show 0 ≤ x1.toInt from by omega) (show x1.toInt < 40 from by omega)
  refine pg_255_207 (d := d + 4) ?_
  have q1_k := SC_l1 hC rfl ⟨by omega, by omega, by omega, by omega⟩
  have g0 := SC_g0 hC rfl
  refine ps_nd_i (show pm_in x1 40 = true from xgi (show 0 ≤ x1.toInt from by omega) (show x1.toInt < 40 from by omega)) ?_
  refine ps_nd_i (show pm_in x1 40 = true from xgi (show 0 ≤ x1.toInt from by omega) (show x1.toInt < 40 from by omega)) ?_
  refine And.intro (fun h4_k => ?_) (fun h4_k => ?_)
  · have f5_k : (ps_a s 1152 (Int32.toNatClampNeg x1)).toInt = (17 : Int) := xeq h4_k
    refine ms_249 J hA ((SC_p hC)) (show 0 ≤ x1.toInt from by omega) (show x1.toInt < 40 from by omega) (show 0 ≤ (ps_a s 1153 (Int32.toNatClampNeg x1)).toInt from by omega) (show (ps_a s 1153 (Int32.toNatClampNeg x1)).toInt < x1.toInt from by omega) (show (ps_i s 1131 51).toInt ≤ 800 from by omega) (fun s6 J6 K6 p6_0 p6_1 p6_2 p6_3 => ?_)
    have K7 := kpt K K6 rfl rfl
    have KC := K6
    have hS : Sg (ps_a s6 1135) (ps_a s6 1136) (ps_a s6 1138) (ps_a s6 1139) (ps_i s6 1131 21).toInt σ := by rw [show ps_a s6 1135 = ps_a s 1135 from (K6.2 1135 rfl).1, show ps_a s6 1136 = ps_a s 1136 from (K6.2 1136 rfl).1, show ps_a s6 1138 = ps_a s 1138 from (K6.2 1138 rfl).1, show ps_a s6 1139 = ps_a s 1139 from (K6.2 1139 rfl).1, show ps_i s6 1131 21 = ps_i s 1131 21 from kp_i K6 21 rfl]; exact hS
    have p6_2' : (ps_i s 1131 51).toInt ≤ (ps_i s6 1131 51).toInt := p6_2
    have r8_k := mf_51 J6
    have p6_3' : (ps_i s6 1131 51).toInt ≤ (ps_i s 1131 51).toInt + 12 := p6_3
    have hA : As σ (ps_a s6 1134) x1.toInt (ps_i s6 1131 51).toInt := p6_0
    have ho : _ := p6_1
    have hO := OutB_tr hO ho
    have hC : SC σ (ps_a s6 1134) (ps_a s6 1157) (ps_a s6 1152) (ps_a s6 1153) (ps_a s6 1154) (ps_a s6 1155) (ps_i s6 1131 21).toInt x1.toInt := by rw [show ps_a s6 1157 = ps_a s 1157 from (KC.2 1157 rfl).1, show ps_a s6 1152 = ps_a s 1152 from (KC.2 1152 rfl).1, show ps_a s6 1153 = ps_a s 1153 from (KC.2 1153 rfl).1, show ps_a s6 1154 = ps_a s 1154 from (KC.2 1154 rfl).1, show ps_a s6 1155 = ps_a s 1155 from (KC.2 1155 rfl).1, show ps_i s6 1131 21 = ps_i s 1131 21 from kp_i KC 21 rfl]; exact SC_out hC ho
    have J9 := mwi_34 (v := (0 : Int32)) J6 (show 0 ≤ (0 : Int) from by omega) (show (0 : Int) ≤ 100000 from by omega)
    have K10 := kpi K7 (q := 34) (v := (0 : Int32)) rfl
    have hM : Md (ps_a (ps_ui s6 1131 34 0) 1149) (ps_i (ps_ui s6 1131 34 0) 1131 34).toInt ([] : List Nat) := Md_nil rfl
    refine ps_nd_i (show pm_in x1 40 = true from xgi (show 0 ≤ x1.toInt from by omega) (show x1.toInt < 40 from by omega)) ?_
    have r11_k : 0 ≤ (ps_a s6 1152 (Int32.toNatClampNeg x1)).toInt ∧ (ps_a s6 1152 (Int32.toNatClampNeg x1)).toInt ≤ 18 := ma_1152 (i := x1) J6 (show 0 ≤ x1.toInt from by omega) (show x1.toInt < 40 from by omega)
    have u12 : (ps_a s6 1152 (Int32.toNatClampNeg x1)).toInt = (ps_a s 1152 (Int32.toNatClampNeg x1)).toInt := xeq (kp_a K6 1152 rfl _)
    refine And.intro (fun h13_k => ?_) (fun h13_k => ?_)
    · have f14_k : (ps_a s6 1152 (Int32.toNatClampNeg x1)).toInt ≠ (10 : Int) := xne h13_k
      try have hM1 : Md (ps_a (ps_ui s6 1131 34 0) 1149) (ps_i (ps_ui s6 1131 34 0) 1131 34).toInt ([] ++ [3]) := by first | exact Md_make hM rfl (by decide) | exact Md_make' hM (by decide) (by omega)
      have r15_k : -1 ≤ (ps_a s6 1153 (Int32.toNatClampNeg x1)).toInt ∧ (ps_a s6 1153 (Int32.toNatClampNeg x1)).toInt ≤ 9999 := ma_1153 (i := x1) J6 (show 0 ≤ x1.toInt from by omega) (show x1.toInt < 40 from by omega)
      have u16 : (ps_a s6 1153 (Int32.toNatClampNeg x1)).toInt = (ps_a s 1153 (Int32.toNatClampNeg x1)).toInt := xeq (kp_a K6 1153 rfl _)
      exact ms_255_255 (x1 := x1) (σ := σ) k  x2 x3 _ J9 K10 hS hC hA hO (show 0 ≤ x1.toInt from by omega) (show x1.toInt < 40 from by omega) (show (ps_i s0 1131 51).toInt ≤ 100 from by omega) (show (ps_i s0 1131 51).toInt ≤ (ps_i s6 1131 51).toInt from by omega) (show (ps_i s6 1131 51).toInt ≤ (ps_i s0 1131 51).toInt + 12 from by omega) (show (ps_a s6 1152 (Int32.toNatClampNeg x1)).toInt = 10 ∨ (ps_a s6 1152 (Int32.toNatClampNeg x1)).toInt = 17 ∨ (ps_a s6 1152 (Int32.toNatClampNeg x1)).toInt = 18 from by omega) (show x2.toInt = 41 * (ps_a s6 1153 (Int32.toNatClampNeg x1)).toInt from by omega) (show x3.toInt = 22468 + 41 * x1.toInt from by omega) (⟨[], hM, by decide, fun z_k => absurd z_k (show (ps_a s6 1152 (Int32.toNatClampNeg x1)).toInt ≠ 10 from by omega), fun _ => rfl⟩)
    · have f17_k : (ps_a s6 1152 (Int32.toNatClampNeg x1)).toInt = (10 : Int) := xeq h13_k
      refine pg_225_0 ?_
      refine And.intro (fun h18_k => ?_) (fun h18_k => ?_)
      · exact absurd (show (260 : Int32) ≤ (0 : Int32) from h18_k) (by decide)
      · have f19_k : (0 : Int) < (260 : Int) := xlt h18_k
        refine ps_nd_i (show pm_in (0 : Int32) 260 = true from xgi (show 0 ≤ (0 : Int) from by omega) (show (0 : Int) < 260 from by omega)) ?_
        have J20 := mwa_n 1149 (i := (Int32.toNatClampNeg (0 : Int32))) (v := (3 : Int32)) J9 rfl (by decide)
        have K21 := kpa' K10 (r := 1149) (i := (Int32.toNatClampNeg (0 : Int32))) (v := (3 : Int32)) rfl
        have a22_k : ((0 : Int32) + 1).toInt = (0 : Int) + (1 : Int) := xIa (show -2147483648 ≤ (0 : Int) + (1 : Int) from by omega) (show (0 : Int) + (1 : Int) < 2147483648 from by omega)
        have J23 := mwi_34 (v := ((0 : Int32) + 1)) J20 (show 0 ≤ ((0 : Int32) + 1).toInt from by omega) (show ((0 : Int32) + 1).toInt ≤ 100000 from by omega)
        have K24 := kpi K21 (q := 34) (v := ((0 : Int32) + 1)) rfl
        try have hM1 : Md (ps_a (ps_ui (ps_ua (ps_ui s6 1131 34 0) 1149 (Int32.toNatClampNeg (0 : Int32)) 3) 1131 34 ((0 : Int32) + 1)) 1149) (ps_i (ps_ui (ps_ua (ps_ui s6 1131 34 0) 1149 (Int32.toNatClampNeg (0 : Int32)) 3) 1131 34 ((0 : Int32) + 1)) 1131 34).toInt ([] ++ [3]) := by first | exact Md_make hM rfl (by decide) | exact Md_make' hM (by decide) (by omega)
        have r25_k : -1 ≤ (ps_a s6 1153 (Int32.toNatClampNeg x1)).toInt ∧ (ps_a s6 1153 (Int32.toNatClampNeg x1)).toInt ≤ 9999 := ma_1153 (i := x1) J6 (show 0 ≤ x1.toInt from by omega) (show x1.toInt < 40 from by omega)
        have u26 : (ps_a s6 1153 (Int32.toNatClampNeg x1)).toInt = (ps_a s 1153 (Int32.toNatClampNeg x1)).toInt := xeq (kp_a K6 1153 rfl _)
        exact ms_255_255 (x1 := x1) (σ := σ) k  x2 x3 _ J23 K24 hS hC hA hO (show 0 ≤ x1.toInt from by omega) (show x1.toInt < 40 from by omega) (show (ps_i s0 1131 51).toInt ≤ 100 from by omega) (show (ps_i s0 1131 51).toInt ≤ (ps_i s6 1131 51).toInt from by omega) (show (ps_i s6 1131 51).toInt ≤ (ps_i s0 1131 51).toInt + 12 from by omega) (show (ps_a s6 1152 (Int32.toNatClampNeg x1)).toInt = 10 ∨ (ps_a s6 1152 (Int32.toNatClampNeg x1)).toInt = 17 ∨ (ps_a s6 1152 (Int32.toNatClampNeg x1)).toInt = 18 from by omega) (show x2.toInt = 41 * (ps_a s6 1153 (Int32.toNatClampNeg x1)).toInt from by omega) (show x3.toInt = 22468 + 41 * x1.toInt from by omega) (⟨_, hM1, by decide, fun _ m hm => (show ws σ (3 :: m) [true] from ws_c (W' := []) (kS_f2 (by decide) (by decide)) hm), fun z_k => absurd (show (ps_a s6 1152 (Int32.toNatClampNeg x1)).toInt = 10 from by omega) z_k⟩)
  · have f27_k : (ps_a s 1152 (Int32.toNatClampNeg x1)).toInt ≠ (17 : Int) := xne h4_k
    refine ms_249 J hA ((SC_p hC)) (show 0 ≤ x1.toInt from by omega) (show x1.toInt < 40 from by omega) (show 0 ≤ (ps_a s 1153 (Int32.toNatClampNeg x1)).toInt from by omega) (show (ps_a s 1153 (Int32.toNatClampNeg x1)).toInt < x1.toInt from by omega) (show (ps_i s 1131 51).toInt ≤ 800 from by omega) (fun s28 J28 K28 p28_0 p28_1 p28_2 p28_3 => ?_)
    have K29 := kpt K K28 rfl rfl
    have KC := K28
    have hS : Sg (ps_a s28 1135) (ps_a s28 1136) (ps_a s28 1138) (ps_a s28 1139) (ps_i s28 1131 21).toInt σ := by rw [show ps_a s28 1135 = ps_a s 1135 from (K28.2 1135 rfl).1, show ps_a s28 1136 = ps_a s 1136 from (K28.2 1136 rfl).1, show ps_a s28 1138 = ps_a s 1138 from (K28.2 1138 rfl).1, show ps_a s28 1139 = ps_a s 1139 from (K28.2 1139 rfl).1, show ps_i s28 1131 21 = ps_i s 1131 21 from kp_i K28 21 rfl]; exact hS
    have p28_2' : (ps_i s 1131 51).toInt ≤ (ps_i s28 1131 51).toInt := p28_2
    have r30_k := mf_51 J28
    have p28_3' : (ps_i s28 1131 51).toInt ≤ (ps_i s 1131 51).toInt + 12 := p28_3
    have hA : As σ (ps_a s28 1134) x1.toInt (ps_i s28 1131 51).toInt := p28_0
    have ho : _ := p28_1
    have hO := OutB_tr hO ho
    have hC : SC σ (ps_a s28 1134) (ps_a s28 1157) (ps_a s28 1152) (ps_a s28 1153) (ps_a s28 1154) (ps_a s28 1155) (ps_i s28 1131 21).toInt x1.toInt := by rw [show ps_a s28 1157 = ps_a s 1157 from (KC.2 1157 rfl).1, show ps_a s28 1152 = ps_a s 1152 from (KC.2 1152 rfl).1, show ps_a s28 1153 = ps_a s 1153 from (KC.2 1153 rfl).1, show ps_a s28 1154 = ps_a s 1154 from (KC.2 1154 rfl).1, show ps_a s28 1155 = ps_a s 1155 from (KC.2 1155 rfl).1, show ps_i s28 1131 21 = ps_i s 1131 21 from kp_i KC 21 rfl]; exact SC_out hC ho
    have J31 := mwi_34 (v := (0 : Int32)) J28 (show 0 ≤ (0 : Int) from by omega) (show (0 : Int) ≤ 100000 from by omega)
    have K32 := kpi K29 (q := 34) (v := (0 : Int32)) rfl
    have hM : Md (ps_a (ps_ui s28 1131 34 0) 1149) (ps_i (ps_ui s28 1131 34 0) 1131 34).toInt ([] : List Nat) := Md_nil rfl
    refine ps_nd_i (show pm_in x1 40 = true from xgi (show 0 ≤ x1.toInt from by omega) (show x1.toInt < 40 from by omega)) ?_
    have r33_k : 0 ≤ (ps_a s28 1152 (Int32.toNatClampNeg x1)).toInt ∧ (ps_a s28 1152 (Int32.toNatClampNeg x1)).toInt ≤ 18 := ma_1152 (i := x1) J28 (show 0 ≤ x1.toInt from by omega) (show x1.toInt < 40 from by omega)
    have u34 : (ps_a s28 1152 (Int32.toNatClampNeg x1)).toInt = (ps_a s 1152 (Int32.toNatClampNeg x1)).toInt := xeq (kp_a K28 1152 rfl _)
    refine And.intro (fun h35_k => ?_) (fun h35_k => ?_)
    · have f36_k : (ps_a s28 1152 (Int32.toNatClampNeg x1)).toInt ≠ (10 : Int) := xne h35_k
      try have hM1 : Md (ps_a (ps_ui s28 1131 34 0) 1149) (ps_i (ps_ui s28 1131 34 0) 1131 34).toInt ([] ++ [3]) := by first | exact Md_make hM rfl (by decide) | exact Md_make' hM (by decide) (by omega)
      have r37_k : -1 ≤ (ps_a s28 1153 (Int32.toNatClampNeg x1)).toInt ∧ (ps_a s28 1153 (Int32.toNatClampNeg x1)).toInt ≤ 9999 := ma_1153 (i := x1) J28 (show 0 ≤ x1.toInt from by omega) (show x1.toInt < 40 from by omega)
      have u38 : (ps_a s28 1153 (Int32.toNatClampNeg x1)).toInt = (ps_a s 1153 (Int32.toNatClampNeg x1)).toInt := xeq (kp_a K28 1153 rfl _)
      exact ms_255_255 (x1 := x1) (σ := σ) k  x2 x3 _ J31 K32 hS hC hA hO (show 0 ≤ x1.toInt from by omega) (show x1.toInt < 40 from by omega) (show (ps_i s0 1131 51).toInt ≤ 100 from by omega) (show (ps_i s0 1131 51).toInt ≤ (ps_i s28 1131 51).toInt from by omega) (show (ps_i s28 1131 51).toInt ≤ (ps_i s0 1131 51).toInt + 12 from by omega) (show (ps_a s28 1152 (Int32.toNatClampNeg x1)).toInt = 10 ∨ (ps_a s28 1152 (Int32.toNatClampNeg x1)).toInt = 17 ∨ (ps_a s28 1152 (Int32.toNatClampNeg x1)).toInt = 18 from by omega) (show x2.toInt = 41 * (ps_a s28 1153 (Int32.toNatClampNeg x1)).toInt from by omega) (show x3.toInt = 22468 + 41 * x1.toInt from by omega) (⟨[], hM, by decide, fun z_k => absurd z_k (show (ps_a s28 1152 (Int32.toNatClampNeg x1)).toInt ≠ 10 from by omega), fun _ => rfl⟩)
    · have f39_k : (ps_a s28 1152 (Int32.toNatClampNeg x1)).toInt = (10 : Int) := xeq h35_k
      refine pg_225_0 ?_
      refine And.intro (fun h40_k => ?_) (fun h40_k => ?_)
      · exact absurd (show (260 : Int32) ≤ (0 : Int32) from h40_k) (by decide)
      · have f41_k : (0 : Int) < (260 : Int) := xlt h40_k
        refine ps_nd_i (show pm_in (0 : Int32) 260 = true from xgi (show 0 ≤ (0 : Int) from by omega) (show (0 : Int) < 260 from by omega)) ?_
        have J42 := mwa_n 1149 (i := (Int32.toNatClampNeg (0 : Int32))) (v := (3 : Int32)) J31 rfl (by decide)
        have K43 := kpa' K32 (r := 1149) (i := (Int32.toNatClampNeg (0 : Int32))) (v := (3 : Int32)) rfl
        have a44_k : ((0 : Int32) + 1).toInt = (0 : Int) + (1 : Int) := xIa (show -2147483648 ≤ (0 : Int) + (1 : Int) from by omega) (show (0 : Int) + (1 : Int) < 2147483648 from by omega)
        have J45 := mwi_34 (v := ((0 : Int32) + 1)) J42 (show 0 ≤ ((0 : Int32) + 1).toInt from by omega) (show ((0 : Int32) + 1).toInt ≤ 100000 from by omega)
        have K46 := kpi K43 (q := 34) (v := ((0 : Int32) + 1)) rfl
        try have hM1 : Md (ps_a (ps_ui (ps_ua (ps_ui s28 1131 34 0) 1149 (Int32.toNatClampNeg (0 : Int32)) 3) 1131 34 ((0 : Int32) + 1)) 1149) (ps_i (ps_ui (ps_ua (ps_ui s28 1131 34 0) 1149 (Int32.toNatClampNeg (0 : Int32)) 3) 1131 34 ((0 : Int32) + 1)) 1131 34).toInt ([] ++ [3]) := by first | exact Md_make hM rfl (by decide) | exact Md_make' hM (by decide) (by omega)
        have r47_k : -1 ≤ (ps_a s28 1153 (Int32.toNatClampNeg x1)).toInt ∧ (ps_a s28 1153 (Int32.toNatClampNeg x1)).toInt ≤ 9999 := ma_1153 (i := x1) J28 (show 0 ≤ x1.toInt from by omega) (show x1.toInt < 40 from by omega)
        have u48 : (ps_a s28 1153 (Int32.toNatClampNeg x1)).toInt = (ps_a s 1153 (Int32.toNatClampNeg x1)).toInt := xeq (kp_a K28 1153 rfl _)
        exact ms_255_255 (x1 := x1) (σ := σ) k  x2 x3 _ J45 K46 hS hC hA hO (show 0 ≤ x1.toInt from by omega) (show x1.toInt < 40 from by omega) (show (ps_i s0 1131 51).toInt ≤ 100 from by omega) (show (ps_i s0 1131 51).toInt ≤ (ps_i s28 1131 51).toInt from by omega) (show (ps_i s28 1131 51).toInt ≤ (ps_i s0 1131 51).toInt + 12 from by omega) (show (ps_a s28 1152 (Int32.toNatClampNeg x1)).toInt = 10 ∨ (ps_a s28 1152 (Int32.toNatClampNeg x1)).toInt = 17 ∨ (ps_a s28 1152 (Int32.toNatClampNeg x1)).toInt = 18 from by omega) (show x2.toInt = 41 * (ps_a s28 1153 (Int32.toNatClampNeg x1)).toInt from by omega) (show x3.toInt = 22468 + 41 * x1.toInt from by omega) (⟨_, hM1, by decide, fun _ m hm => (show ws σ (3 :: m) [true] from ws_c (W' := []) (kS_f2 (by decide) (by decide)) hm), fun z_k => absurd (show (ps_a s28 1152 (Int32.toNatClampNeg x1)).toInt = 10 from by omega) z_k⟩)

theorem ms_255_181 {x : Nat → Nat → Nat} {t : Int32} {d : Nat} {s0 : ps_S} {σ : mSig} {x1 : Int32} {Q : Option Value → ps_S → Prop} (k : ∀ (s' : ps_S), mJ x t s' → kp [1134, 1149] [34, 50, 51] s0 s' → (As σ (ps_a s' 1134) x1.toInt (ps_i s' 1131 51).toInt) → (OutB (ps_a s0 1134) (ps_a s' 1134) x1.toInt) → ((ps_i s0 1131 51).toInt ≤ (ps_i s' 1131 51).toInt) → ((ps_i s' 1131 51).toInt ≤ (ps_i s0 1131 51).toInt + 36) → (Res σ (ps_a s' 1149) (ps_i s' 1131 34).toInt (ps_i s' 1131 50).toInt) → Q none s') (x2 : Int32) (x3 : Int32) (s : ps_S) (J : mJ x t s) (K : kp [1134, 1149] [34, 50, 51] s0 s) (hS : Sg (ps_a s 1135) (ps_a s 1136) (ps_a s 1138) (ps_a s 1139) (ps_i s 1131 21).toInt σ) (hC : SC σ (ps_a s 1134) (ps_a s 1157) (ps_a s 1152) (ps_a s 1153) (ps_a s 1154) (ps_a s 1155) (ps_i s 1131 21).toInt x1.toInt) (hA : As σ (ps_a s 1134) x1.toInt (ps_i s 1131 51).toInt) (hO : OutB (ps_a s0 1134) (ps_a s 1134) x1.toInt) (i4_k : 0 ≤ x1.toInt) (i5_k : x1.toInt < 40) (i6_k : (ps_i s0 1131 51).toInt ≤ 100) (i7_k : (ps_i s 1131 51).toInt = (ps_i s0 1131 51).toInt) (i8_k : (ps_a s 1152 (Int32.toNatClampNeg x1)).toInt = 10 ∨ (ps_a s 1152 (Int32.toNatClampNeg x1)).toInt = 17 ∨ (ps_a s 1152 (Int32.toNatClampNeg x1)).toInt = 18) (i9_k : x2.toInt = 41 * (ps_a s 1153 (Int32.toNatClampNeg x1)).toInt) (i10_k : x3.toInt = 22468 + 41 * x1.toInt) (i11_k : ∃ ml, Md (ps_a s 1149) (ps_i s 1131 34).toInt ml ∧ ml.length ≤ 50) : ps_At (d + 5) 255 181 [(0, .ref 1131), (1, .int x1), (2, .int x2), (3, .int x3)] [] s Q := by
  have r1_k := mf_51 J
  have r2_k : 0 ≤ (ps_a s 1152 (Int32.toNatClampNeg x1)).toInt ∧ (ps_a s 1152 (Int32.toNatClampNeg x1)).toInt ≤ 18 := ma_1152 (i := x1) J (show 0 ≤ x1.toInt from by omega) (show x1.toInt < 40 from by omega)
  have r3_k : -1 ≤ (ps_a s 1153 (Int32.toNatClampNeg x1)).toInt ∧ (ps_a s 1153 (Int32.toNatClampNeg x1)).toInt ≤ 9999 := ma_1153 (i := x1) J (show 0 ≤ x1.toInt from by omega) (show x1.toInt < 40 from by omega)
  refine pg_255_181 (d := d + 4) ?_
  obtain ⟨ml, hm1, hm2⟩ := i11_k
  have h34_k := hm1.1
  refine ps_nd_i (show pm_in x1 40 = true from xgi (show 0 ≤ x1.toInt from by omega) (show x1.toInt < 40 from by omega)) ?_
  refine And.intro (fun h4_k => ?_) (fun h4_k => ?_)
  · have f5_k : (ps_a s 1152 (Int32.toNatClampNeg x1)).toInt ≠ (18 : Int) := xne h4_k
    exact ms_255_207 (x1 := x1) (σ := σ) k  x2 x3 _ J K hS hC hA hO (show 0 ≤ x1.toInt from by omega) (show x1.toInt < 40 from by omega) (show (ps_i s0 1131 51).toInt ≤ 100 from by omega) (show (ps_i s 1131 51).toInt = (ps_i s0 1131 51).toInt from by omega) (show (ps_a s 1152 (Int32.toNatClampNeg x1)).toInt = 10 ∨ (ps_a s 1152 (Int32.toNatClampNeg x1)).toInt = 17 ∨ (ps_a s 1152 (Int32.toNatClampNeg x1)).toInt = 18 from by omega) (show x2.toInt = 41 * (ps_a s 1153 (Int32.toNatClampNeg x1)).toInt from by omega) (show x3.toInt = 22468 + 41 * x1.toInt from by omega)
  · have f6_k : (ps_a s 1152 (Int32.toNatClampNeg x1)).toInt = (18 : Int) := xeq h4_k
    refine pg_225_0 ?_
    have r7_k := mf_34 J
    refine And.intro (fun h8_k => ?_) (fun h8_k => ?_)
    · have f9_k : (260 : Int) ≤ (ps_i s 1131 34).toInt := xle h8_k
      have a10_k : ((ps_i s 1131 34) + 1).toInt = (ps_i s 1131 34).toInt + (1 : Int) := xIa (show -2147483648 ≤ (ps_i s 1131 34).toInt + (1 : Int) from by omega) (show (ps_i s 1131 34).toInt + (1 : Int) < 2147483648 from by omega)
      have J11 := mwi_34 (v := ((ps_i s 1131 34) + 1)) J (show 0 ≤ ((ps_i s 1131 34) + 1).toInt from by omega) (show ((ps_i s 1131 34) + 1).toInt ≤ 100000 from by omega)
      have K12 := kpi K (q := 34) (v := ((ps_i s 1131 34) + 1)) rfl
      have hM1 : Md (ps_a (ps_ui s 1131 34 ((ps_i s 1131 34) + 1)) 1149) (ps_i (ps_ui s 1131 34 ((ps_i s 1131 34) + 1)) 1131 34).toInt (ml ++ [3]) := by first | exact Md_make hm1 rfl (by omega) | exact Md_make' hm1 (by omega) (by omega)
      obtain ⟨l, hl1, hl2⟩ := SC_f (j := x3) hC rfl (by omega) (by omega)
      have hlen := hl1.2.2.2.1
      refine ms_227 J11 (hl1) (hM1) ((by rw [List.length_append]; show ml.length + 1 + l.length ≤ _; omega)) (fun s13 J13 K13 p13_0 => ?_)
      have K14 := kpt K12 K13 rfl rfl
      have KC := K13
      have hS : Sg (ps_a s13 1135) (ps_a s13 1136) (ps_a s13 1138) (ps_a s13 1139) (ps_i s13 1131 21).toInt σ := by rw [show ps_a s13 1135 = ps_a (ps_ui s 1131 34 ((ps_i s 1131 34) + 1)) 1135 from (K13.2 1135 rfl).1, show ps_a s13 1136 = ps_a (ps_ui s 1131 34 ((ps_i s 1131 34) + 1)) 1136 from (K13.2 1136 rfl).1, show ps_a s13 1138 = ps_a (ps_ui s 1131 34 ((ps_i s 1131 34) + 1)) 1138 from (K13.2 1138 rfl).1, show ps_a s13 1139 = ps_a (ps_ui s 1131 34 ((ps_i s 1131 34) + 1)) 1139 from (K13.2 1139 rfl).1, show ps_i s13 1131 21 = ps_i (ps_ui s 1131 34 ((ps_i s 1131 34) + 1)) 1131 21 from kp_i K13 21 rfl]; exact hS
      have hC : SC σ (ps_a s13 1134) (ps_a s13 1157) (ps_a s13 1152) (ps_a s13 1153) (ps_a s13 1154) (ps_a s13 1155) (ps_i s13 1131 21).toInt x1.toInt := by rw [show ps_a s13 1134 = ps_a (ps_ui s 1131 34 ((ps_i s 1131 34) + 1)) 1134 from (K13.2 1134 rfl).1, show ps_a s13 1157 = ps_a (ps_ui s 1131 34 ((ps_i s 1131 34) + 1)) 1157 from (K13.2 1157 rfl).1, show ps_a s13 1152 = ps_a (ps_ui s 1131 34 ((ps_i s 1131 34) + 1)) 1152 from (K13.2 1152 rfl).1, show ps_a s13 1153 = ps_a (ps_ui s 1131 34 ((ps_i s 1131 34) + 1)) 1153 from (K13.2 1153 rfl).1, show ps_a s13 1154 = ps_a (ps_ui s 1131 34 ((ps_i s 1131 34) + 1)) 1154 from (K13.2 1154 rfl).1, show ps_a s13 1155 = ps_a (ps_ui s 1131 34 ((ps_i s 1131 34) + 1)) 1155 from (K13.2 1155 rfl).1, show ps_i s13 1131 21 = ps_i (ps_ui s 1131 34 ((ps_i s 1131 34) + 1)) 1131 21 from kp_i K13 21 rfl]; exact hC
      have hA : As σ (ps_a s13 1134) x1.toInt (ps_i s13 1131 51).toInt := by rw [show ps_a s13 1134 = ps_a (ps_ui s 1131 34 ((ps_i s 1131 34) + 1)) 1134 from (K13.2 1134 rfl).1, show ps_i s13 1131 51 = ps_i (ps_ui s 1131 34 ((ps_i s 1131 34) + 1)) 1131 51 from kp_i K13 51 rfl]; exact hA
      have hO : OutB (ps_a s0 1134) (ps_a s13 1134) x1.toInt := by rw [show ps_a s13 1134 = ps_a (ps_ui s 1131 34 ((ps_i s 1131 34) + 1)) 1134 from (K13.2 1134 rfl).1]; exact hO
      have hM2 : Md (ps_a s13 1149) (ps_i s13 1131 34).toInt ((ml ++ [3]) ++ l) := p13_0
      have h34_k := hM2.1
      rw [llen, l1c] at h34_k
      refine pg_225_0 ?_
      have r15_k := mf_34 J13
      refine And.intro (fun h16_k => ?_) (fun h16_k => ?_)
      · have f17_k : (260 : Int) ≤ (ps_i s13 1131 34).toInt := xle h16_k
        have a18_k : ((ps_i s13 1131 34) + 1).toInt = (ps_i s13 1131 34).toInt + (1 : Int) := xIa (show -2147483648 ≤ (ps_i s13 1131 34).toInt + (1 : Int) from by omega) (show (ps_i s13 1131 34).toInt + (1 : Int) < 2147483648 from by omega)
        have J19 := mwi_34 (v := ((ps_i s13 1131 34) + 1)) J13 (show 0 ≤ ((ps_i s13 1131 34) + 1).toInt from by omega) (show ((ps_i s13 1131 34) + 1).toInt ≤ 100000 from by omega)
        have K20 := kpi K14 (q := 34) (v := ((ps_i s13 1131 34) + 1)) rfl
        have r21_k := mf_51 J13
        have u22 : (ps_i s13 1131 51).toInt = (ps_i s 1131 51).toInt := xeq (kp_i K13 51 rfl)
        have r23_k : 0 ≤ (ps_a s13 1152 (Int32.toNatClampNeg x1)).toInt ∧ (ps_a s13 1152 (Int32.toNatClampNeg x1)).toInt ≤ 18 := ma_1152 (i := x1) J13 (show 0 ≤ x1.toInt from by omega) (show x1.toInt < 40 from by omega)
        have u24 : (ps_a s13 1152 (Int32.toNatClampNeg x1)).toInt = (ps_a s 1152 (Int32.toNatClampNeg x1)).toInt := xeq (kp_a K13 1152 rfl _)
        have r25_k : -1 ≤ (ps_a s13 1153 (Int32.toNatClampNeg x1)).toInt ∧ (ps_a s13 1153 (Int32.toNatClampNeg x1)).toInt ≤ 9999 := ma_1153 (i := x1) J13 (show 0 ≤ x1.toInt from by omega) (show x1.toInt < 40 from by omega)
        have u26 : (ps_a s13 1153 (Int32.toNatClampNeg x1)).toInt = (ps_a s 1153 (Int32.toNatClampNeg x1)).toInt := xeq (kp_a K13 1153 rfl _)
        exact ms_255_207 (x1 := x1) (σ := σ) k  x2 x3 _ J19 K20 hS hC hA hO (show 0 ≤ x1.toInt from by omega) (show x1.toInt < 40 from by omega) (show (ps_i s0 1131 51).toInt ≤ 100 from by omega) (show (ps_i s13 1131 51).toInt = (ps_i s0 1131 51).toInt from by omega) (show (ps_a s13 1152 (Int32.toNatClampNeg x1)).toInt = 10 ∨ (ps_a s13 1152 (Int32.toNatClampNeg x1)).toInt = 17 ∨ (ps_a s13 1152 (Int32.toNatClampNeg x1)).toInt = 18 from by omega) (show x2.toInt = 41 * (ps_a s13 1153 (Int32.toNatClampNeg x1)).toInt from by omega) (show x3.toInt = 22468 + 41 * x1.toInt from by omega)
      · have f27_k : (ps_i s13 1131 34).toInt < (260 : Int) := xlt h16_k
        refine ps_nd_i (show pm_in (ps_i s13 1131 34) 260 = true from xgi (show 0 ≤ (ps_i s13 1131 34).toInt from by omega) (show (ps_i s13 1131 34).toInt < 260 from by omega)) ?_
        have J28 := mwa_n 1149 (i := (Int32.toNatClampNeg (ps_i s13 1131 34))) (v := (0 : Int32)) J13 rfl (by decide)
        have K29 := kpa' K14 (r := 1149) (i := (Int32.toNatClampNeg (ps_i s13 1131 34))) (v := (0 : Int32)) rfl
        have a30_k : ((ps_i s13 1131 34) + 1).toInt = (ps_i s13 1131 34).toInt + (1 : Int) := xIa (show -2147483648 ≤ (ps_i s13 1131 34).toInt + (1 : Int) from by omega) (show (ps_i s13 1131 34).toInt + (1 : Int) < 2147483648 from by omega)
        have J31 := mwi_34 (v := ((ps_i s13 1131 34) + 1)) J28 (show 0 ≤ ((ps_i s13 1131 34) + 1).toInt from by omega) (show ((ps_i s13 1131 34) + 1).toInt ≤ 100000 from by omega)
        have K32 := kpi K29 (q := 34) (v := ((ps_i s13 1131 34) + 1)) rfl
        have r33_k := mf_51 J13
        have u34 : (ps_i s13 1131 51).toInt = (ps_i s 1131 51).toInt := xeq (kp_i K13 51 rfl)
        have r35_k : 0 ≤ (ps_a s13 1152 (Int32.toNatClampNeg x1)).toInt ∧ (ps_a s13 1152 (Int32.toNatClampNeg x1)).toInt ≤ 18 := ma_1152 (i := x1) J13 (show 0 ≤ x1.toInt from by omega) (show x1.toInt < 40 from by omega)
        have u36 : (ps_a s13 1152 (Int32.toNatClampNeg x1)).toInt = (ps_a s 1152 (Int32.toNatClampNeg x1)).toInt := xeq (kp_a K13 1152 rfl _)
        have r37_k : -1 ≤ (ps_a s13 1153 (Int32.toNatClampNeg x1)).toInt ∧ (ps_a s13 1153 (Int32.toNatClampNeg x1)).toInt ≤ 9999 := ma_1153 (i := x1) J13 (show 0 ≤ x1.toInt from by omega) (show x1.toInt < 40 from by omega)
        have u38 : (ps_a s13 1153 (Int32.toNatClampNeg x1)).toInt = (ps_a s 1153 (Int32.toNatClampNeg x1)).toInt := xeq (kp_a K13 1153 rfl _)
        exact ms_255_207 (x1 := x1) (σ := σ) k  x2 x3 _ J31 K32 hS hC hA hO (show 0 ≤ x1.toInt from by omega) (show x1.toInt < 40 from by omega) (show (ps_i s0 1131 51).toInt ≤ 100 from by omega) (show (ps_i s13 1131 51).toInt = (ps_i s0 1131 51).toInt from by omega) (show (ps_a s13 1152 (Int32.toNatClampNeg x1)).toInt = 10 ∨ (ps_a s13 1152 (Int32.toNatClampNeg x1)).toInt = 17 ∨ (ps_a s13 1152 (Int32.toNatClampNeg x1)).toInt = 18 from by omega) (show x2.toInt = 41 * (ps_a s13 1153 (Int32.toNatClampNeg x1)).toInt from by omega) (show x3.toInt = 22468 + 41 * x1.toInt from by omega)
    · have f39_k : (ps_i s 1131 34).toInt < (260 : Int) := xlt h8_k
      refine ps_nd_i (show pm_in (ps_i s 1131 34) 260 = true from xgi (show 0 ≤ (ps_i s 1131 34).toInt from by omega) (show (ps_i s 1131 34).toInt < 260 from by omega)) ?_
      have J40 := mwa_n 1149 (i := (Int32.toNatClampNeg (ps_i s 1131 34))) (v := (3 : Int32)) J rfl (by decide)
      have K41 := kpa' K (r := 1149) (i := (Int32.toNatClampNeg (ps_i s 1131 34))) (v := (3 : Int32)) rfl
      have a42_k : ((ps_i s 1131 34) + 1).toInt = (ps_i s 1131 34).toInt + (1 : Int) := xIa (show -2147483648 ≤ (ps_i s 1131 34).toInt + (1 : Int) from by omega) (show (ps_i s 1131 34).toInt + (1 : Int) < 2147483648 from by omega)
      have J43 := mwi_34 (v := ((ps_i s 1131 34) + 1)) J40 (show 0 ≤ ((ps_i s 1131 34) + 1).toInt from by omega) (show ((ps_i s 1131 34) + 1).toInt ≤ 100000 from by omega)
      have K44 := kpi K41 (q := 34) (v := ((ps_i s 1131 34) + 1)) rfl
      have hM1 : Md (ps_a (ps_ui (ps_ua s 1149 (Int32.toNatClampNeg (ps_i s 1131 34)) 3) 1131 34 ((ps_i s 1131 34) + 1)) 1149) (ps_i (ps_ui (ps_ua s 1149 (Int32.toNatClampNeg (ps_i s 1131 34)) 3) 1131 34 ((ps_i s 1131 34) + 1)) 1131 34).toInt (ml ++ [3]) := by first | exact Md_make hm1 rfl (by omega) | exact Md_make' hm1 (by omega) (by omega)
      obtain ⟨l, hl1, hl2⟩ := SC_f (j := x3) hC rfl (by omega) (by omega)
      have hlen := hl1.2.2.2.1
      refine ms_227 J43 (hl1) (hM1) ((by rw [List.length_append]; show ml.length + 1 + l.length ≤ _; omega)) (fun s45 J45 K45 p45_0 => ?_)
      have K46 := kpt K44 K45 rfl rfl
      have KC := K45
      have hS : Sg (ps_a s45 1135) (ps_a s45 1136) (ps_a s45 1138) (ps_a s45 1139) (ps_i s45 1131 21).toInt σ := by rw [show ps_a s45 1135 = ps_a (ps_ui (ps_ua s 1149 (Int32.toNatClampNeg (ps_i s 1131 34)) 3) 1131 34 ((ps_i s 1131 34) + 1)) 1135 from (K45.2 1135 rfl).1, show ps_a s45 1136 = ps_a (ps_ui (ps_ua s 1149 (Int32.toNatClampNeg (ps_i s 1131 34)) 3) 1131 34 ((ps_i s 1131 34) + 1)) 1136 from (K45.2 1136 rfl).1, show ps_a s45 1138 = ps_a (ps_ui (ps_ua s 1149 (Int32.toNatClampNeg (ps_i s 1131 34)) 3) 1131 34 ((ps_i s 1131 34) + 1)) 1138 from (K45.2 1138 rfl).1, show ps_a s45 1139 = ps_a (ps_ui (ps_ua s 1149 (Int32.toNatClampNeg (ps_i s 1131 34)) 3) 1131 34 ((ps_i s 1131 34) + 1)) 1139 from (K45.2 1139 rfl).1, show ps_i s45 1131 21 = ps_i (ps_ui (ps_ua s 1149 (Int32.toNatClampNeg (ps_i s 1131 34)) 3) 1131 34 ((ps_i s 1131 34) + 1)) 1131 21 from kp_i K45 21 rfl]; exact hS
      have hC : SC σ (ps_a s45 1134) (ps_a s45 1157) (ps_a s45 1152) (ps_a s45 1153) (ps_a s45 1154) (ps_a s45 1155) (ps_i s45 1131 21).toInt x1.toInt := by rw [show ps_a s45 1134 = ps_a (ps_ui (ps_ua s 1149 (Int32.toNatClampNeg (ps_i s 1131 34)) 3) 1131 34 ((ps_i s 1131 34) + 1)) 1134 from (K45.2 1134 rfl).1, show ps_a s45 1157 = ps_a (ps_ui (ps_ua s 1149 (Int32.toNatClampNeg (ps_i s 1131 34)) 3) 1131 34 ((ps_i s 1131 34) + 1)) 1157 from (K45.2 1157 rfl).1, show ps_a s45 1152 = ps_a (ps_ui (ps_ua s 1149 (Int32.toNatClampNeg (ps_i s 1131 34)) 3) 1131 34 ((ps_i s 1131 34) + 1)) 1152 from (K45.2 1152 rfl).1, show ps_a s45 1153 = ps_a (ps_ui (ps_ua s 1149 (Int32.toNatClampNeg (ps_i s 1131 34)) 3) 1131 34 ((ps_i s 1131 34) + 1)) 1153 from (K45.2 1153 rfl).1, show ps_a s45 1154 = ps_a (ps_ui (ps_ua s 1149 (Int32.toNatClampNeg (ps_i s 1131 34)) 3) 1131 34 ((ps_i s 1131 34) + 1)) 1154 from (K45.2 1154 rfl).1, show ps_a s45 1155 = ps_a (ps_ui (ps_ua s 1149 (Int32.toNatClampNeg (ps_i s 1131 34)) 3) 1131 34 ((ps_i s 1131 34) + 1)) 1155 from (K45.2 1155 rfl).1, show ps_i s45 1131 21 = ps_i (ps_ui (ps_ua s 1149 (Int32.toNatClampNeg (ps_i s 1131 34)) 3) 1131 34 ((ps_i s 1131 34) + 1)) 1131 21 from kp_i K45 21 rfl]; exact hC
      have hA : As σ (ps_a s45 1134) x1.toInt (ps_i s45 1131 51).toInt := by rw [show ps_a s45 1134 = ps_a (ps_ui (ps_ua s 1149 (Int32.toNatClampNeg (ps_i s 1131 34)) 3) 1131 34 ((ps_i s 1131 34) + 1)) 1134 from (K45.2 1134 rfl).1, show ps_i s45 1131 51 = ps_i (ps_ui (ps_ua s 1149 (Int32.toNatClampNeg (ps_i s 1131 34)) 3) 1131 34 ((ps_i s 1131 34) + 1)) 1131 51 from kp_i K45 51 rfl]; exact hA
      have hO : OutB (ps_a s0 1134) (ps_a s45 1134) x1.toInt := by rw [show ps_a s45 1134 = ps_a (ps_ui (ps_ua s 1149 (Int32.toNatClampNeg (ps_i s 1131 34)) 3) 1131 34 ((ps_i s 1131 34) + 1)) 1134 from (K45.2 1134 rfl).1]; exact hO
      have hM2 : Md (ps_a s45 1149) (ps_i s45 1131 34).toInt ((ml ++ [3]) ++ l) := p45_0
      have h34_k := hM2.1
      rw [llen, l1c] at h34_k
      refine pg_225_0 ?_
      have r47_k := mf_34 J45
      refine And.intro (fun h48_k => ?_) (fun h48_k => ?_)
      · have f49_k : (260 : Int) ≤ (ps_i s45 1131 34).toInt := xle h48_k
        have a50_k : ((ps_i s45 1131 34) + 1).toInt = (ps_i s45 1131 34).toInt + (1 : Int) := xIa (show -2147483648 ≤ (ps_i s45 1131 34).toInt + (1 : Int) from by omega) (show (ps_i s45 1131 34).toInt + (1 : Int) < 2147483648 from by omega)
        have J51 := mwi_34 (v := ((ps_i s45 1131 34) + 1)) J45 (show 0 ≤ ((ps_i s45 1131 34) + 1).toInt from by omega) (show ((ps_i s45 1131 34) + 1).toInt ≤ 100000 from by omega)
        have K52 := kpi K46 (q := 34) (v := ((ps_i s45 1131 34) + 1)) rfl
        have r53_k := mf_51 J45
        have u54 : (ps_i s45 1131 51).toInt = (ps_i s 1131 51).toInt := xeq (kp_i K45 51 rfl)
        have r55_k : 0 ≤ (ps_a s45 1152 (Int32.toNatClampNeg x1)).toInt ∧ (ps_a s45 1152 (Int32.toNatClampNeg x1)).toInt ≤ 18 := ma_1152 (i := x1) J45 (show 0 ≤ x1.toInt from by omega) (show x1.toInt < 40 from by omega)
        have u56 : (ps_a s45 1152 (Int32.toNatClampNeg x1)).toInt = (ps_a s 1152 (Int32.toNatClampNeg x1)).toInt := xeq (kp_a K45 1152 rfl _)
        have r57_k : -1 ≤ (ps_a s45 1153 (Int32.toNatClampNeg x1)).toInt ∧ (ps_a s45 1153 (Int32.toNatClampNeg x1)).toInt ≤ 9999 := ma_1153 (i := x1) J45 (show 0 ≤ x1.toInt from by omega) (show x1.toInt < 40 from by omega)
        have u58 : (ps_a s45 1153 (Int32.toNatClampNeg x1)).toInt = (ps_a s 1153 (Int32.toNatClampNeg x1)).toInt := xeq (kp_a K45 1153 rfl _)
        exact ms_255_207 (x1 := x1) (σ := σ) k  x2 x3 _ J51 K52 hS hC hA hO (show 0 ≤ x1.toInt from by omega) (show x1.toInt < 40 from by omega) (show (ps_i s0 1131 51).toInt ≤ 100 from by omega) (show (ps_i s45 1131 51).toInt = (ps_i s0 1131 51).toInt from by omega) (show (ps_a s45 1152 (Int32.toNatClampNeg x1)).toInt = 10 ∨ (ps_a s45 1152 (Int32.toNatClampNeg x1)).toInt = 17 ∨ (ps_a s45 1152 (Int32.toNatClampNeg x1)).toInt = 18 from by omega) (show x2.toInt = 41 * (ps_a s45 1153 (Int32.toNatClampNeg x1)).toInt from by omega) (show x3.toInt = 22468 + 41 * x1.toInt from by omega)
      · have f59_k : (ps_i s45 1131 34).toInt < (260 : Int) := xlt h48_k
        refine ps_nd_i (show pm_in (ps_i s45 1131 34) 260 = true from xgi (show 0 ≤ (ps_i s45 1131 34).toInt from by omega) (show (ps_i s45 1131 34).toInt < 260 from by omega)) ?_
        have J60 := mwa_n 1149 (i := (Int32.toNatClampNeg (ps_i s45 1131 34))) (v := (0 : Int32)) J45 rfl (by decide)
        have K61 := kpa' K46 (r := 1149) (i := (Int32.toNatClampNeg (ps_i s45 1131 34))) (v := (0 : Int32)) rfl
        have a62_k : ((ps_i s45 1131 34) + 1).toInt = (ps_i s45 1131 34).toInt + (1 : Int) := xIa (show -2147483648 ≤ (ps_i s45 1131 34).toInt + (1 : Int) from by omega) (show (ps_i s45 1131 34).toInt + (1 : Int) < 2147483648 from by omega)
        have J63 := mwi_34 (v := ((ps_i s45 1131 34) + 1)) J60 (show 0 ≤ ((ps_i s45 1131 34) + 1).toInt from by omega) (show ((ps_i s45 1131 34) + 1).toInt ≤ 100000 from by omega)
        have K64 := kpi K61 (q := 34) (v := ((ps_i s45 1131 34) + 1)) rfl
        have r65_k := mf_51 J45
        have u66 : (ps_i s45 1131 51).toInt = (ps_i s 1131 51).toInt := xeq (kp_i K45 51 rfl)
        have r67_k : 0 ≤ (ps_a s45 1152 (Int32.toNatClampNeg x1)).toInt ∧ (ps_a s45 1152 (Int32.toNatClampNeg x1)).toInt ≤ 18 := ma_1152 (i := x1) J45 (show 0 ≤ x1.toInt from by omega) (show x1.toInt < 40 from by omega)
        have u68 : (ps_a s45 1152 (Int32.toNatClampNeg x1)).toInt = (ps_a s 1152 (Int32.toNatClampNeg x1)).toInt := xeq (kp_a K45 1152 rfl _)
        have r69_k : -1 ≤ (ps_a s45 1153 (Int32.toNatClampNeg x1)).toInt ∧ (ps_a s45 1153 (Int32.toNatClampNeg x1)).toInt ≤ 9999 := ma_1153 (i := x1) J45 (show 0 ≤ x1.toInt from by omega) (show x1.toInt < 40 from by omega)
        have u70 : (ps_a s45 1153 (Int32.toNatClampNeg x1)).toInt = (ps_a s 1153 (Int32.toNatClampNeg x1)).toInt := xeq (kp_a K45 1153 rfl _)
        exact ms_255_207 (x1 := x1) (σ := σ) k  x2 x3 _ J63 K64 hS hC hA hO (show 0 ≤ x1.toInt from by omega) (show x1.toInt < 40 from by omega) (show (ps_i s0 1131 51).toInt ≤ 100 from by omega) (show (ps_i s45 1131 51).toInt = (ps_i s0 1131 51).toInt from by omega) (show (ps_a s45 1152 (Int32.toNatClampNeg x1)).toInt = 10 ∨ (ps_a s45 1152 (Int32.toNatClampNeg x1)).toInt = 17 ∨ (ps_a s45 1152 (Int32.toNatClampNeg x1)).toInt = 18 from by omega) (show x2.toInt = 41 * (ps_a s45 1153 (Int32.toNatClampNeg x1)).toInt from by omega) (show x3.toInt = 22468 + 41 * x1.toInt from by omega)

theorem ms_255_165 {x : Nat → Nat → Nat} {t : Int32} {d : Nat} {s0 : ps_S} {σ : mSig} {x1 : Int32} {Q : Option Value → ps_S → Prop} (k : ∀ (s' : ps_S), mJ x t s' → kp [1134, 1149] [34, 50, 51] s0 s' → (As σ (ps_a s' 1134) x1.toInt (ps_i s' 1131 51).toInt) → (OutB (ps_a s0 1134) (ps_a s' 1134) x1.toInt) → ((ps_i s0 1131 51).toInt ≤ (ps_i s' 1131 51).toInt) → ((ps_i s' 1131 51).toInt ≤ (ps_i s0 1131 51).toInt + 36) → (Res σ (ps_a s' 1149) (ps_i s' 1131 34).toInt (ps_i s' 1131 50).toInt) → Q none s') (x2 : Int32) (x3 : Int32) (s : ps_S) (J : mJ x t s) (K : kp [1134, 1149] [34, 50, 51] s0 s) (hS : Sg (ps_a s 1135) (ps_a s 1136) (ps_a s 1138) (ps_a s 1139) (ps_i s 1131 21).toInt σ) (hC : SC σ (ps_a s 1134) (ps_a s 1157) (ps_a s 1152) (ps_a s 1153) (ps_a s 1154) (ps_a s 1155) (ps_i s 1131 21).toInt x1.toInt) (hA : As σ (ps_a s 1134) x1.toInt (ps_i s 1131 51).toInt) (hO : OutB (ps_a s0 1134) (ps_a s 1134) x1.toInt) (i4_k : 0 ≤ x1.toInt) (i5_k : x1.toInt < 40) (i6_k : (ps_i s0 1131 51).toInt ≤ 100) (i7_k : (ps_i s 1131 51).toInt = (ps_i s0 1131 51).toInt) (i8_k : (ps_a s 1152 (Int32.toNatClampNeg x1)).toInt = 10 ∨ (ps_a s 1152 (Int32.toNatClampNeg x1)).toInt = 17 ∨ (ps_a s 1152 (Int32.toNatClampNeg x1)).toInt = 18) (i9_k : x2.toInt = 41 * (ps_a s 1153 (Int32.toNatClampNeg x1)).toInt) (i10_k : x3.toInt = 22468 + 41 * x1.toInt) (hM : Md (ps_a s 1149) (ps_i s 1131 34).toInt ([] : List Nat)) : ps_At (d + 5) 255 165 [(0, .ref 1131), (1, .int x1), (2, .int x2), (3, .int x3)] [] s Q := by
  have r1_k := mf_51 J
  have r2_k : 0 ≤ (ps_a s 1152 (Int32.toNatClampNeg x1)).toInt ∧ (ps_a s 1152 (Int32.toNatClampNeg x1)).toInt ≤ 18 := ma_1152 (i := x1) J (show 0 ≤ x1.toInt from by omega) (show x1.toInt < 40 from by omega)
  have r3_k : -1 ≤ (ps_a s 1153 (Int32.toNatClampNeg x1)).toInt ∧ (ps_a s 1153 (Int32.toNatClampNeg x1)).toInt ≤ 9999 := ma_1153 (i := x1) J (show 0 ≤ x1.toInt from by omega) (show x1.toInt < 40 from by omega)
  refine pg_255_165 (d := d + 4) ?_
  refine ps_nd_i (show pm_in x1 40 = true from xgi (show 0 ≤ x1.toInt from by omega) (show x1.toInt < 40 from by omega)) ?_
  refine And.intro (fun h4_k => ?_) (fun h4_k => ?_)
  · have f5_k : (ps_a s 1152 (Int32.toNatClampNeg x1)).toInt ≠ (10 : Int) := xne h4_k
    exact ms_255_181 (x1 := x1) (σ := σ) k  x2 x3 _ J K hS hC hA hO (show 0 ≤ x1.toInt from by omega) (show x1.toInt < 40 from by omega) (show (ps_i s0 1131 51).toInt ≤ 100 from by omega) (show (ps_i s 1131 51).toInt = (ps_i s0 1131 51).toInt from by omega) (show (ps_a s 1152 (Int32.toNatClampNeg x1)).toInt = 10 ∨ (ps_a s 1152 (Int32.toNatClampNeg x1)).toInt = 17 ∨ (ps_a s 1152 (Int32.toNatClampNeg x1)).toInt = 18 from by omega) (show x2.toInt = 41 * (ps_a s 1153 (Int32.toNatClampNeg x1)).toInt from by omega) (show x3.toInt = 22468 + 41 * x1.toInt from by omega) ((by first | exact ⟨_, hM1, by rw [List.nil_append]; omega⟩ | exact ⟨_, hM, by decide⟩))
  · have f6_k : (ps_a s 1152 (Int32.toNatClampNeg x1)).toInt = (10 : Int) := xeq h4_k
    obtain ⟨l, hl1, hl2⟩ := SC_f (j := x3) hC rfl (by omega) (by omega)
    have hlen := hl1.2.2.2.1
    refine ms_227 J (hl1) (hM) ((by rw [List.length_nil]; omega)) (fun s7 J7 K7 p7_0 => ?_)
    have K8 := kpt K K7 rfl rfl
    have KC := K7
    have hS : Sg (ps_a s7 1135) (ps_a s7 1136) (ps_a s7 1138) (ps_a s7 1139) (ps_i s7 1131 21).toInt σ := by rw [show ps_a s7 1135 = ps_a s 1135 from (K7.2 1135 rfl).1, show ps_a s7 1136 = ps_a s 1136 from (K7.2 1136 rfl).1, show ps_a s7 1138 = ps_a s 1138 from (K7.2 1138 rfl).1, show ps_a s7 1139 = ps_a s 1139 from (K7.2 1139 rfl).1, show ps_i s7 1131 21 = ps_i s 1131 21 from kp_i K7 21 rfl]; exact hS
    have hC : SC σ (ps_a s7 1134) (ps_a s7 1157) (ps_a s7 1152) (ps_a s7 1153) (ps_a s7 1154) (ps_a s7 1155) (ps_i s7 1131 21).toInt x1.toInt := by rw [show ps_a s7 1134 = ps_a s 1134 from (K7.2 1134 rfl).1, show ps_a s7 1157 = ps_a s 1157 from (K7.2 1157 rfl).1, show ps_a s7 1152 = ps_a s 1152 from (K7.2 1152 rfl).1, show ps_a s7 1153 = ps_a s 1153 from (K7.2 1153 rfl).1, show ps_a s7 1154 = ps_a s 1154 from (K7.2 1154 rfl).1, show ps_a s7 1155 = ps_a s 1155 from (K7.2 1155 rfl).1, show ps_i s7 1131 21 = ps_i s 1131 21 from kp_i K7 21 rfl]; exact hC
    have hA : As σ (ps_a s7 1134) x1.toInt (ps_i s7 1131 51).toInt := by rw [show ps_a s7 1134 = ps_a s 1134 from (K7.2 1134 rfl).1, show ps_i s7 1131 51 = ps_i s 1131 51 from kp_i K7 51 rfl]; exact hA
    have hO : OutB (ps_a s0 1134) (ps_a s7 1134) x1.toInt := by rw [show ps_a s7 1134 = ps_a s 1134 from (K7.2 1134 rfl).1]; exact hO
    have hM1 : _ := p7_0
    have r9_k := mf_51 J7
    have u10 : (ps_i s7 1131 51).toInt = (ps_i s 1131 51).toInt := xeq (kp_i K7 51 rfl)
    have r11_k : 0 ≤ (ps_a s7 1152 (Int32.toNatClampNeg x1)).toInt ∧ (ps_a s7 1152 (Int32.toNatClampNeg x1)).toInt ≤ 18 := ma_1152 (i := x1) J7 (show 0 ≤ x1.toInt from by omega) (show x1.toInt < 40 from by omega)
    have u12 : (ps_a s7 1152 (Int32.toNatClampNeg x1)).toInt = (ps_a s 1152 (Int32.toNatClampNeg x1)).toInt := xeq (kp_a K7 1152 rfl _)
    have r13_k : -1 ≤ (ps_a s7 1153 (Int32.toNatClampNeg x1)).toInt ∧ (ps_a s7 1153 (Int32.toNatClampNeg x1)).toInt ≤ 9999 := ma_1153 (i := x1) J7 (show 0 ≤ x1.toInt from by omega) (show x1.toInt < 40 from by omega)
    have u14 : (ps_a s7 1153 (Int32.toNatClampNeg x1)).toInt = (ps_a s 1153 (Int32.toNatClampNeg x1)).toInt := xeq (kp_a K7 1153 rfl _)
    exact ms_255_181 (x1 := x1) (σ := σ) k  x2 x3 _ J7 K8 hS hC hA hO (show 0 ≤ x1.toInt from by omega) (show x1.toInt < 40 from by omega) (show (ps_i s0 1131 51).toInt ≤ 100 from by omega) (show (ps_i s7 1131 51).toInt = (ps_i s0 1131 51).toInt from by omega) (show (ps_a s7 1152 (Int32.toNatClampNeg x1)).toInt = 10 ∨ (ps_a s7 1152 (Int32.toNatClampNeg x1)).toInt = 17 ∨ (ps_a s7 1152 (Int32.toNatClampNeg x1)).toInt = 18 from by omega) (show x2.toInt = 41 * (ps_a s7 1153 (Int32.toNatClampNeg x1)).toInt from by omega) (show x3.toInt = 22468 + 41 * x1.toInt from by omega) ((by first | exact ⟨_, hM1, by rw [List.nil_append]; omega⟩ | exact ⟨_, hM, by decide⟩))

theorem ms_255 {x : Nat → Nat → Nat} {t : Int32} {s : ps_S} {d : Nat} {x1 : Int32} {f : ps_S → Prop} (J : mJ x t s) {σ : mSig} (hS : Sg (ps_a s 1135) (ps_a s 1136) (ps_a s 1138) (ps_a s 1139) (ps_i s 1131 21).toInt σ) (hC : SC σ (ps_a s 1134) (ps_a s 1157) (ps_a s 1152) (ps_a s 1153) (ps_a s 1154) (ps_a s 1155) (ps_i s 1131 21).toInt x1.toInt) (hA : As σ (ps_a s 1134) x1.toInt (ps_i s 1131 51).toInt) (hM : Md (ps_a s 1149) (ps_i s 1131 34).toInt ([] : List Nat)) (q4_k : 0 ≤ x1.toInt) (q5_k : x1.toInt < 40) (q6_k : (ps_i s 1131 51).toInt ≤ 100) (q7_k : (ps_a s 1152 (Int32.toNatClampNeg x1)).toInt = 8 ∨ (ps_a s 1152 (Int32.toNatClampNeg x1)).toInt = 9 ∨ (ps_a s 1152 (Int32.toNatClampNeg x1)).toInt = 10 ∨ (ps_a s 1152 (Int32.toNatClampNeg x1)).toInt = 17 ∨ (ps_a s 1152 (Int32.toNatClampNeg x1)).toInt = 18) (k : ∀ (s' : ps_S), mJ x t s' → kp [1134, 1149] [34, 50, 51] s s' → (As σ (ps_a s' 1134) x1.toInt (ps_i s' 1131 51).toInt) → (OutB (ps_a s 1134) (ps_a s' 1134) x1.toInt) → ((ps_i s 1131 51).toInt ≤ (ps_i s' 1131 51).toInt) → ((ps_i s' 1131 51).toInt ≤ (ps_i s 1131 51).toInt + 36) → (Res σ (ps_a s' 1149) (ps_i s' 1131 34).toInt (ps_i s' 1131 50).toInt) → f s') : ps_Cl (d + 5) 255 [.ref 1131, .int x1] s (ps_rV f) := by
  have r1_k := mf_51 J
  have r2_k : 0 ≤ (ps_a s 1152 (Int32.toNatClampNeg x1)).toInt ∧ (ps_a s 1152 (Int32.toNatClampNeg x1)).toInt ≤ 18 := ma_1152 (i := x1) J (show 0 ≤ x1.toInt from by omega) (show x1.toInt < 40 from by omega)
  have K : kp [1134, 1149] [34, 50, 51] s s := kp_refl
  refine pg_255_0 (d := d + 4) ?_
  have hO : OutB (ps_a s 1134) (ps_a s 1134) x1.toInt := OutB_refl
  have q1_k := SC_l1 hC rfl ⟨by omega, by omega, by omega, by omega⟩
  refine pg_244_0 ?_
  refine ps_nd_i (show pm_in x1 40 = true from xgi (show 0 ≤ x1.toInt from by omega) (show x1.toInt < 40 from by omega)) ?_
  have r3_k : -1 ≤ (ps_a s 1153 (Int32.toNatClampNeg x1)).toInt ∧ (ps_a s 1153 (Int32.toNatClampNeg x1)).toInt ≤ 9999 := ma_1153 (i := x1) J (show 0 ≤ x1.toInt from by omega) (show x1.toInt < 40 from by omega)
  refine pg_242_0 ?_
  have a4_k : ((41 : Int32) * (ps_a s 1153 (Int32.toNatClampNeg x1))).toInt = (41 : Int) * (ps_a s 1153 (Int32.toNatClampNeg x1)).toInt := xIm (show -2147483648 ≤ (41 : Int) * (ps_a s 1153 (Int32.toNatClampNeg x1)).toInt from by omega) (show (41 : Int) * (ps_a s 1153 (Int32.toNatClampNeg x1)).toInt < 2147483648 from by omega)
  have a5_k : ((0 : Int32) + ((41 : Int32) * (ps_a s 1153 (Int32.toNatClampNeg x1)))).toInt = (0 : Int) + ((41 : Int32) * (ps_a s 1153 (Int32.toNatClampNeg x1))).toInt := xIa (show -2147483648 ≤ (0 : Int) + ((41 : Int32) * (ps_a s 1153 (Int32.toNatClampNeg x1))).toInt from by omega) (show (0 : Int) + ((41 : Int32) * (ps_a s 1153 (Int32.toNatClampNeg x1))).toInt < 2147483648 from by omega)
  obtain ⟨l, hl1, hl2⟩ := SC_1i hC rfl ⟨by omega, by omega, by omega, by omega⟩
  have hl1 : Rw (ps_a s 1134) (((0 : Int32) + ((41 : Int32) * (ps_a s 1153 (Int32.toNatClampNeg x1))))).toInt l := by rw [show (((0 : Int32) + ((41 : Int32) * (ps_a s 1153 (Int32.toNatClampNeg x1))))).toInt = 41 * (ps_a s 1153 (Int32.toNatClampNeg x1)).toInt from by omega]; exact hl1
  obtain ⟨c, l3, rfl⟩ := wf_ne hl2
  have hp_k := Rw_p (l1 := []) (i := 0) hl1 rfl rfl
  have w1 := hl1.1
  have w2 := hl1.2.1
  have w3 := hl1.2.2.1
  have hlen := hl1.2.2.2.1
  have a6_k : ((41 : Int32) * x1).toInt = (41 : Int) * x1.toInt := xIm (show -2147483648 ≤ (41 : Int) * x1.toInt from by omega) (show (41 : Int) * x1.toInt < 2147483648 from by omega)
  have a7_k : ((22468 : Int32) + ((41 : Int32) * x1)).toInt = (22468 : Int) + ((41 : Int32) * x1).toInt := xIa (show -2147483648 ≤ (22468 : Int) + ((41 : Int32) * x1).toInt from by omega) (show (22468 : Int) + ((41 : Int32) * x1).toInt < 2147483648 from by omega)
  refine ps_nd_i (show pm_in x1 40 = true from xgi (show 0 ≤ x1.toInt from by omega) (show x1.toInt < 40 from by omega)) ?_
  refine And.intro (fun h8_k => ?_) (fun h8_k => ?_)
  · have f9_k : (ps_a s 1152 (Int32.toNatClampNeg x1)).toInt ≠ (8 : Int) := xne h8_k
    refine ps_nd_i (show pm_in x1 40 = true from xgi (show 0 ≤ x1.toInt from by omega) (show x1.toInt < 40 from by omega)) ?_
    refine And.intro (fun h10_k => ?_) (fun h10_k => ?_)
    · have f11_k : (ps_a s 1152 (Int32.toNatClampNeg x1)).toInt ≠ (9 : Int) := xne h10_k
      refine ps_nd_i (show pm_in x1 40 = true from xgi (show 0 ≤ x1.toInt from by omega) (show x1.toInt < 40 from by omega)) ?_
      refine And.intro (fun h12_k => ?_) (fun h12_k => ?_)
      · have f13_k : (ps_a s 1152 (Int32.toNatClampNeg x1)).toInt = (10 : Int) := xeq h12_k
        exact ms_255_165 (x1 := x1) (σ := σ) k  ((0 : Int32) + ((41 : Int32) * (ps_a s 1153 (Int32.toNatClampNeg x1)))) ((22468 : Int32) + ((41 : Int32) * x1)) _ J K hS hC hA hO (show 0 ≤ x1.toInt from by omega) (show x1.toInt < 40 from by omega) (show (ps_i s 1131 51).toInt ≤ 100 from by omega) (show (ps_i s 1131 51).toInt = (ps_i s 1131 51).toInt from by omega) (show (ps_a s 1152 (Int32.toNatClampNeg x1)).toInt = 10 ∨ (ps_a s 1152 (Int32.toNatClampNeg x1)).toInt = 17 ∨ (ps_a s 1152 (Int32.toNatClampNeg x1)).toInt = 18 from by omega) (show ((0 : Int32) + ((41 : Int32) * (ps_a s 1153 (Int32.toNatClampNeg x1)))).toInt = 41 * (ps_a s 1153 (Int32.toNatClampNeg x1)).toInt from by omega) (show ((22468 : Int32) + ((41 : Int32) * x1)).toInt = 22468 + 41 * x1.toInt from by omega) hM
      · have f14_k : (ps_a s 1152 (Int32.toNatClampNeg x1)).toInt ≠ (10 : Int) := xne h12_k
        refine pg_247_0 ?_
        refine pg_220_0 ?_
        have a15_k : (((0 : Int32) + ((41 : Int32) * (ps_a s 1153 (Int32.toNatClampNeg x1)))) + 1).toInt = ((0 : Int32) + ((41 : Int32) * (ps_a s 1153 (Int32.toNatClampNeg x1)))).toInt + (1 : Int) := xIa (show -2147483648 ≤ ((0 : Int32) + ((41 : Int32) * (ps_a s 1153 (Int32.toNatClampNeg x1)))).toInt + (1 : Int) from by omega) (show ((0 : Int32) + ((41 : Int32) * (ps_a s 1153 (Int32.toNatClampNeg x1)))).toInt + (1 : Int) < 2147483648 from by omega)
        have a16_k : ((((0 : Int32) + ((41 : Int32) * (ps_a s 1153 (Int32.toNatClampNeg x1)))) + 1) + 0).toInt = (((0 : Int32) + ((41 : Int32) * (ps_a s 1153 (Int32.toNatClampNeg x1)))) + 1).toInt + (0 : Int) := xIa (show -2147483648 ≤ (((0 : Int32) + ((41 : Int32) * (ps_a s 1153 (Int32.toNatClampNeg x1)))) + 1).toInt + (0 : Int) from by omega) (show (((0 : Int32) + ((41 : Int32) * (ps_a s 1153 (Int32.toNatClampNeg x1)))) + 1).toInt + (0 : Int) < 2147483648 from by omega)
        refine ps_nd_i (show pm_in ((((0 : Int32) + ((41 : Int32) * (ps_a s 1153 (Int32.toNatClampNeg x1)))) + 1) + 0) 27400 = true from xgi (show 0 ≤ ((((0 : Int32) + ((41 : Int32) * (ps_a s 1153 (Int32.toNatClampNeg x1)))) + 1) + 0).toInt from by omega) (show ((((0 : Int32) + ((41 : Int32) * (ps_a s 1153 (Int32.toNatClampNeg x1)))) + 1) + 0).toInt < 27400 from by omega)) ?_
        have r17_k : ((((0 : Int32) + ((41 : Int32) * (ps_a s 1153 (Int32.toNatClampNeg x1)))) + 1) + 0).toInt % 41 = 0 → ((((0 : Int32) + ((41 : Int32) * (ps_a s 1153 (Int32.toNatClampNeg x1)))) + 1) + 0).toInt < 27306 → 0 ≤ (ps_a s 1134 (Int32.toNatClampNeg ((((0 : Int32) + ((41 : Int32) * (ps_a s 1153 (Int32.toNatClampNeg x1)))) + 1) + 0))).toInt ∧ (ps_a s 1134 (Int32.toNatClampNeg ((((0 : Int32) + ((41 : Int32) * (ps_a s 1153 (Int32.toNatClampNeg x1)))) + 1) + 0))).toInt ≤ 40 := fun z1_k z2_k => mp_row (i := ((((0 : Int32) + ((41 : Int32) * (ps_a s 1153 (Int32.toNatClampNeg x1)))) + 1) + 0)) J z1_k (show 0 ≤ ((((0 : Int32) + ((41 : Int32) * (ps_a s 1153 (Int32.toNatClampNeg x1)))) + 1) + 0).toInt from by omega) z2_k
        refine And.intro (fun h18_k => ?_) (fun h18_k => ?_)
        · have f19_k : (ps_a s 1134 (Int32.toNatClampNeg ((((0 : Int32) + ((41 : Int32) * (ps_a s 1153 (Int32.toNatClampNeg x1)))) + 1) + 0))).toInt = (0 : Int) := xeq h18_k
          exact ms_255_165 (x1 := x1) (σ := σ) k  ((0 : Int32) + ((41 : Int32) * (ps_a s 1153 (Int32.toNatClampNeg x1)))) ((22468 : Int32) + ((41 : Int32) * x1)) _ J K hS hC hA hO (show 0 ≤ x1.toInt from by omega) (show x1.toInt < 40 from by omega) (show (ps_i s 1131 51).toInt ≤ 100 from by omega) (show (ps_i s 1131 51).toInt = (ps_i s 1131 51).toInt from by omega) (show (ps_a s 1152 (Int32.toNatClampNeg x1)).toInt = 10 ∨ (ps_a s 1152 (Int32.toNatClampNeg x1)).toInt = 17 ∨ (ps_a s 1152 (Int32.toNatClampNeg x1)).toInt = 18 from by omega) (show ((0 : Int32) + ((41 : Int32) * (ps_a s 1153 (Int32.toNatClampNeg x1)))).toInt = 41 * (ps_a s 1153 (Int32.toNatClampNeg x1)).toInt from by omega) (show ((22468 : Int32) + ((41 : Int32) * x1)).toInt = 22468 + 41 * x1.toInt from by omega) hM
        · have f20_k : (ps_a s 1134 (Int32.toNatClampNeg ((((0 : Int32) + ((41 : Int32) * (ps_a s 1153 (Int32.toNatClampNeg x1)))) + 1) + 0))).toInt ≠ (0 : Int) := xne h18_k
          refine ms_241 J (show 1 ≤ (2 : Int) from by omega) (show (2 : Int) ≤ 5 from by omega) (fun s21 J21 K21 p21_0 => ?_)
          have K22 := kpt K K21 rfl rfl
          have KC := K21
          have hS : Sg (ps_a s21 1135) (ps_a s21 1136) (ps_a s21 1138) (ps_a s21 1139) (ps_i s21 1131 21).toInt σ := by rw [show ps_a s21 1135 = ps_a s 1135 from (K21.2 1135 rfl).1, show ps_a s21 1136 = ps_a s 1136 from (K21.2 1136 rfl).1, show ps_a s21 1138 = ps_a s 1138 from (K21.2 1138 rfl).1, show ps_a s21 1139 = ps_a s 1139 from (K21.2 1139 rfl).1, show ps_i s21 1131 21 = ps_i s 1131 21 from kp_i K21 21 rfl]; exact hS
          have hC : SC σ (ps_a s21 1134) (ps_a s21 1157) (ps_a s21 1152) (ps_a s21 1153) (ps_a s21 1154) (ps_a s21 1155) (ps_i s21 1131 21).toInt x1.toInt := by rw [show ps_a s21 1134 = ps_a s 1134 from (K21.2 1134 rfl).1, show ps_a s21 1157 = ps_a s 1157 from (K21.2 1157 rfl).1, show ps_a s21 1152 = ps_a s 1152 from (K21.2 1152 rfl).1, show ps_a s21 1153 = ps_a s 1153 from (K21.2 1153 rfl).1, show ps_a s21 1154 = ps_a s 1154 from (K21.2 1154 rfl).1, show ps_a s21 1155 = ps_a s 1155 from (K21.2 1155 rfl).1, show ps_i s21 1131 21 = ps_i s 1131 21 from kp_i K21 21 rfl]; exact hC
          have hA : As σ (ps_a s21 1134) x1.toInt (ps_i s21 1131 51).toInt := by rw [show ps_a s21 1134 = ps_a s 1134 from (K21.2 1134 rfl).1, show ps_i s21 1131 51 = ps_i s 1131 51 from kp_i K21 51 rfl]; exact hA
          have hM : Md (ps_a s21 1149) (ps_i s21 1131 34).toInt ([] : List Nat) := by rw [show ps_a s21 1149 = ps_a s 1149 from (K21.2 1149 rfl).1, show ps_i s21 1131 34 = ps_i s 1131 34 from kp_i K21 34 rfl]; exact hM
          have hO : OutB (ps_a s 1134) (ps_a s21 1134) x1.toInt := by rw [show ps_a s21 1134 = ps_a s 1134 from (K21.2 1134 rfl).1]; exact hO
          have p21_0' : 1 ≤ (ps_i s21 1131 50).toInt := p21_0
          have r23_k := mf_50 J21
          have r24_k := mf_51 J21
          have u25 : (ps_i s21 1131 51).toInt = (ps_i s 1131 51).toInt := xeq (kp_i K21 51 rfl)
          have r26_k : 0 ≤ (ps_a s21 1152 (Int32.toNatClampNeg x1)).toInt ∧ (ps_a s21 1152 (Int32.toNatClampNeg x1)).toInt ≤ 18 := ma_1152 (i := x1) J21 (show 0 ≤ x1.toInt from by omega) (show x1.toInt < 40 from by omega)
          have u27 : (ps_a s21 1152 (Int32.toNatClampNeg x1)).toInt = (ps_a s 1152 (Int32.toNatClampNeg x1)).toInt := xeq (kp_a K21 1152 rfl _)
          have r28_k : -1 ≤ (ps_a s21 1153 (Int32.toNatClampNeg x1)).toInt ∧ (ps_a s21 1153 (Int32.toNatClampNeg x1)).toInt ≤ 9999 := ma_1153 (i := x1) J21 (show 0 ≤ x1.toInt from by omega) (show x1.toInt < 40 from by omega)
          have u29 : (ps_a s21 1153 (Int32.toNatClampNeg x1)).toInt = (ps_a s 1153 (Int32.toNatClampNeg x1)).toInt := xeq (kp_a K21 1153 rfl _)
          exact ms_255_165 (x1 := x1) (σ := σ) k  ((0 : Int32) + ((41 : Int32) * (ps_a s 1153 (Int32.toNatClampNeg x1)))) ((22468 : Int32) + ((41 : Int32) * x1)) _ J21 K22 hS hC hA hO (show 0 ≤ x1.toInt from by omega) (show x1.toInt < 40 from by omega) (show (ps_i s 1131 51).toInt ≤ 100 from by omega) (show (ps_i s21 1131 51).toInt = (ps_i s 1131 51).toInt from by omega) (show (ps_a s21 1152 (Int32.toNatClampNeg x1)).toInt = 10 ∨ (ps_a s21 1152 (Int32.toNatClampNeg x1)).toInt = 17 ∨ (ps_a s21 1152 (Int32.toNatClampNeg x1)).toInt = 18 from by omega) (show ((0 : Int32) + ((41 : Int32) * (ps_a s 1153 (Int32.toNatClampNeg x1)))).toInt = 41 * (ps_a s21 1153 (Int32.toNatClampNeg x1)).toInt from by omega) (show ((22468 : Int32) + ((41 : Int32) * x1)).toInt = 22468 + 41 * x1.toInt from by omega) hM
    · have f30_k : (ps_a s 1152 (Int32.toNatClampNeg x1)).toInt = (9 : Int) := xeq h10_k
      have q2_k := SC_l2 hC rfl (by omega)
      refine pg_247_0 ?_
      refine pg_220_0 ?_
      have a31_k : (((0 : Int32) + ((41 : Int32) * (ps_a s 1153 (Int32.toNatClampNeg x1)))) + 1).toInt = ((0 : Int32) + ((41 : Int32) * (ps_a s 1153 (Int32.toNatClampNeg x1)))).toInt + (1 : Int) := xIa (show -2147483648 ≤ ((0 : Int32) + ((41 : Int32) * (ps_a s 1153 (Int32.toNatClampNeg x1)))).toInt + (1 : Int) from by omega) (show ((0 : Int32) + ((41 : Int32) * (ps_a s 1153 (Int32.toNatClampNeg x1)))).toInt + (1 : Int) < 2147483648 from by omega)
      have a32_k : ((((0 : Int32) + ((41 : Int32) * (ps_a s 1153 (Int32.toNatClampNeg x1)))) + 1) + 0).toInt = (((0 : Int32) + ((41 : Int32) * (ps_a s 1153 (Int32.toNatClampNeg x1)))) + 1).toInt + (0 : Int) := xIa (show -2147483648 ≤ (((0 : Int32) + ((41 : Int32) * (ps_a s 1153 (Int32.toNatClampNeg x1)))) + 1).toInt + (0 : Int) from by omega) (show (((0 : Int32) + ((41 : Int32) * (ps_a s 1153 (Int32.toNatClampNeg x1)))) + 1).toInt + (0 : Int) < 2147483648 from by omega)
      refine ps_nd_i (show pm_in ((((0 : Int32) + ((41 : Int32) * (ps_a s 1153 (Int32.toNatClampNeg x1)))) + 1) + 0) 27400 = true from xgi (show 0 ≤ ((((0 : Int32) + ((41 : Int32) * (ps_a s 1153 (Int32.toNatClampNeg x1)))) + 1) + 0).toInt from by omega) (show ((((0 : Int32) + ((41 : Int32) * (ps_a s 1153 (Int32.toNatClampNeg x1)))) + 1) + 0).toInt < 27400 from by omega)) ?_
      have r33_k : ((((0 : Int32) + ((41 : Int32) * (ps_a s 1153 (Int32.toNatClampNeg x1)))) + 1) + 0).toInt % 41 = 0 → ((((0 : Int32) + ((41 : Int32) * (ps_a s 1153 (Int32.toNatClampNeg x1)))) + 1) + 0).toInt < 27306 → 0 ≤ (ps_a s 1134 (Int32.toNatClampNeg ((((0 : Int32) + ((41 : Int32) * (ps_a s 1153 (Int32.toNatClampNeg x1)))) + 1) + 0))).toInt ∧ (ps_a s 1134 (Int32.toNatClampNeg ((((0 : Int32) + ((41 : Int32) * (ps_a s 1153 (Int32.toNatClampNeg x1)))) + 1) + 0))).toInt ≤ 40 := fun z1_k z2_k => mp_row (i := ((((0 : Int32) + ((41 : Int32) * (ps_a s 1153 (Int32.toNatClampNeg x1)))) + 1) + 0)) J z1_k (show 0 ≤ ((((0 : Int32) + ((41 : Int32) * (ps_a s 1153 (Int32.toNatClampNeg x1)))) + 1) + 0).toInt from by omega) z2_k
      refine And.intro (fun h34_k => ?_) (fun h34_k => ?_)
      · have f35_k : (ps_a s 1134 (Int32.toNatClampNeg ((((0 : Int32) + ((41 : Int32) * (ps_a s 1153 (Int32.toNatClampNeg x1)))) + 1) + 0))).toInt ≠ (3 : Int) := xne h34_k
        refine ms_226 J ((by first | exact (show Rw (ps_a s 1134) (((0 : Int32) + ((41 : Int32) * (ps_a s 1153 (Int32.toNatClampNeg x1))))).toInt ([3] ++ (p ++ q)) from hl1) | exact (show Rw (ps_a s 1134) (((0 : Int32) + ((41 : Int32) * (ps_a s 1153 (Int32.toNatClampNeg x1))))).toInt ([c] ++ ([] ++ l3)) from hl1))) (hM) ((by rfl)) ((by first | exact Or.inl hv_k | exact Or.inr ⟨rfl, by decide⟩)) ((by first | (rw [List.length_nil]; omega) | (show 0 + 0 ≤ 90000; omega))) (fun s36 J36 K36 p36_0 => ?_)
        have K37 := kpt K K36 rfl rfl
        have KC := K36
        have hS : Sg (ps_a s36 1135) (ps_a s36 1136) (ps_a s36 1138) (ps_a s36 1139) (ps_i s36 1131 21).toInt σ := by rw [show ps_a s36 1135 = ps_a s 1135 from (K36.2 1135 rfl).1, show ps_a s36 1136 = ps_a s 1136 from (K36.2 1136 rfl).1, show ps_a s36 1138 = ps_a s 1138 from (K36.2 1138 rfl).1, show ps_a s36 1139 = ps_a s 1139 from (K36.2 1139 rfl).1, show ps_i s36 1131 21 = ps_i s 1131 21 from kp_i K36 21 rfl]; exact hS
        have hC : SC σ (ps_a s36 1134) (ps_a s36 1157) (ps_a s36 1152) (ps_a s36 1153) (ps_a s36 1154) (ps_a s36 1155) (ps_i s36 1131 21).toInt x1.toInt := by rw [show ps_a s36 1134 = ps_a s 1134 from (K36.2 1134 rfl).1, show ps_a s36 1157 = ps_a s 1157 from (K36.2 1157 rfl).1, show ps_a s36 1152 = ps_a s 1152 from (K36.2 1152 rfl).1, show ps_a s36 1153 = ps_a s 1153 from (K36.2 1153 rfl).1, show ps_a s36 1154 = ps_a s 1154 from (K36.2 1154 rfl).1, show ps_a s36 1155 = ps_a s 1155 from (K36.2 1155 rfl).1, show ps_i s36 1131 21 = ps_i s 1131 21 from kp_i K36 21 rfl]; exact hC
        have hA : As σ (ps_a s36 1134) x1.toInt (ps_i s36 1131 51).toInt := by rw [show ps_a s36 1134 = ps_a s 1134 from (K36.2 1134 rfl).1, show ps_i s36 1131 51 = ps_i s 1131 51 from kp_i K36 51 rfl]; exact hA
        have hO : OutB (ps_a s 1134) (ps_a s36 1134) x1.toInt := by rw [show ps_a s36 1134 = ps_a s 1134 from (K36.2 1134 rfl).1]; exact hO
        refine And.intro (fun h38_k => ?_) (fun h38_k => ?_)
        · have r39_k := mf_51 J36
          have u40 : (ps_i s36 1131 51).toInt = (ps_i s 1131 51).toInt := xeq (kp_i K36 51 rfl)
          have r41_k : 0 ≤ (ps_a s36 1152 (Int32.toNatClampNeg x1)).toInt ∧ (ps_a s36 1152 (Int32.toNatClampNeg x1)).toInt ≤ 18 := ma_1152 (i := x1) J36 (show 0 ≤ x1.toInt from by omega) (show x1.toInt < 40 from by omega)
          have u42 : (ps_a s36 1152 (Int32.toNatClampNeg x1)).toInt = (ps_a s 1152 (Int32.toNatClampNeg x1)).toInt := xeq (kp_a K36 1152 rfl _)
          have r43_k : -1 ≤ (ps_a s36 1153 (Int32.toNatClampNeg x1)).toInt ∧ (ps_a s36 1153 (Int32.toNatClampNeg x1)).toInt ≤ 9999 := ma_1153 (i := x1) J36 (show 0 ≤ x1.toInt from by omega) (show x1.toInt < 40 from by omega)
          have u44 : (ps_a s36 1153 (Int32.toNatClampNeg x1)).toInt = (ps_a s 1153 (Int32.toNatClampNeg x1)).toInt := xeq (kp_a K36 1153 rfl _)
          exact ms_255_89 (x1 := x1) (σ := σ) k  ((0 : Int32) + ((41 : Int32) * (ps_a s 1153 (Int32.toNatClampNeg x1)))) (0) _ J36 K37 hS hC hA hO (show 0 ≤ x1.toInt from by omega) (show x1.toInt < 40 from by omega) (show (ps_i s 1131 51).toInt ≤ 100 from by omega) (show (ps_i s36 1131 51).toInt = (ps_i s 1131 51).toInt from by omega) (show (ps_a s36 1152 (Int32.toNatClampNeg x1)).toInt = 9 from by omega) (show ((0 : Int32) + ((41 : Int32) * (ps_a s 1153 (Int32.toNatClampNeg x1)))).toInt = 41 * (ps_a s36 1153 (Int32.toNatClampNeg x1)).toInt from by omega) ((by first | exact Or.inr ⟨p, q, (by rw [show ps_a s36 1134 = ps_a s 1134 from (KC.2 1134 rfl).1]; exact hl1), hp1, hp2, hv2⟩ | exact Or.inl (by first | rfl | omega)))
        · exact absurd (show (0 : Int32) ≠ (0 : Int32) from h38_k) (by decide)
      · have f45_k : (ps_a s 1134 (Int32.toNatClampNeg ((((0 : Int32) + ((41 : Int32) * (ps_a s 1153 (Int32.toNatClampNeg x1)))) + 1) + 0))).toInt = (3 : Int) := xeq h34_k
        have hc1 : c = 3 := by omega
        subst hc1
        obtain ⟨ks_k, hk_k, hw2⟩ := ws_hd (show ws σ (3 :: l3) [true] from wf_ws hl2)
        rw [kS_f2 (by decide) (by decide)] at hk_k
        cases hk_k
        obtain ⟨p, q, hpq_k, hp1, hp2⟩ := ws_split (W1 := [true]) (W2 := [true]) hw2
        subst hpq_k
        rw [List.length_cons, List.length_append] at hlen
        refine ms_221 J hS ((show Rw (ps_a s 1134) (((0 : Int32) + ((41 : Int32) * (ps_a s 1153 (Int32.toNatClampNeg x1))))).toInt ([3] ++ (p ++ q)) from hl1)) (rfl) (hp1) (fun v46 p46_0 => ?_)
        have hv_k : _ := p46_0
        have hv2 : (v46).toInt = 1 + (p.length : Int) := hv_k
        refine ms_226 J ((by first | exact (show Rw (ps_a s 1134) (((0 : Int32) + ((41 : Int32) * (ps_a s 1153 (Int32.toNatClampNeg x1))))).toInt ([3] ++ (p ++ q)) from hl1) | exact (show Rw (ps_a s 1134) (((0 : Int32) + ((41 : Int32) * (ps_a s 1153 (Int32.toNatClampNeg x1))))).toInt ([c] ++ ([] ++ l3)) from hl1))) (hM) ((by rfl)) ((by first | exact Or.inl hv_k | exact Or.inr ⟨rfl, by decide⟩)) ((by first | (rw [List.length_nil]; omega) | (show 0 + 0 ≤ 90000; omega))) (fun s47 J47 K47 p47_0 => ?_)
        have K48 := kpt K K47 rfl rfl
        have KC := K47
        have hS : Sg (ps_a s47 1135) (ps_a s47 1136) (ps_a s47 1138) (ps_a s47 1139) (ps_i s47 1131 21).toInt σ := by rw [show ps_a s47 1135 = ps_a s 1135 from (K47.2 1135 rfl).1, show ps_a s47 1136 = ps_a s 1136 from (K47.2 1136 rfl).1, show ps_a s47 1138 = ps_a s 1138 from (K47.2 1138 rfl).1, show ps_a s47 1139 = ps_a s 1139 from (K47.2 1139 rfl).1, show ps_i s47 1131 21 = ps_i s 1131 21 from kp_i K47 21 rfl]; exact hS
        have hC : SC σ (ps_a s47 1134) (ps_a s47 1157) (ps_a s47 1152) (ps_a s47 1153) (ps_a s47 1154) (ps_a s47 1155) (ps_i s47 1131 21).toInt x1.toInt := by rw [show ps_a s47 1134 = ps_a s 1134 from (K47.2 1134 rfl).1, show ps_a s47 1157 = ps_a s 1157 from (K47.2 1157 rfl).1, show ps_a s47 1152 = ps_a s 1152 from (K47.2 1152 rfl).1, show ps_a s47 1153 = ps_a s 1153 from (K47.2 1153 rfl).1, show ps_a s47 1154 = ps_a s 1154 from (K47.2 1154 rfl).1, show ps_a s47 1155 = ps_a s 1155 from (K47.2 1155 rfl).1, show ps_i s47 1131 21 = ps_i s 1131 21 from kp_i K47 21 rfl]; exact hC
        have hA : As σ (ps_a s47 1134) x1.toInt (ps_i s47 1131 51).toInt := by rw [show ps_a s47 1134 = ps_a s 1134 from (K47.2 1134 rfl).1, show ps_i s47 1131 51 = ps_i s 1131 51 from kp_i K47 51 rfl]; exact hA
        have hO : OutB (ps_a s 1134) (ps_a s47 1134) x1.toInt := by rw [show ps_a s47 1134 = ps_a s 1134 from (K47.2 1134 rfl).1]; exact hO
        refine And.intro (fun h49_k => ?_) (fun h49_k => ?_)
        · have f50_k : v46.toInt = (0 : Int) := xeq h49_k
          have r51_k := mf_51 J47
          have u52 : (ps_i s47 1131 51).toInt = (ps_i s 1131 51).toInt := xeq (kp_i K47 51 rfl)
          have r53_k : 0 ≤ (ps_a s47 1152 (Int32.toNatClampNeg x1)).toInt ∧ (ps_a s47 1152 (Int32.toNatClampNeg x1)).toInt ≤ 18 := ma_1152 (i := x1) J47 (show 0 ≤ x1.toInt from by omega) (show x1.toInt < 40 from by omega)
          have u54 : (ps_a s47 1152 (Int32.toNatClampNeg x1)).toInt = (ps_a s 1152 (Int32.toNatClampNeg x1)).toInt := xeq (kp_a K47 1152 rfl _)
          have r55_k : -1 ≤ (ps_a s47 1153 (Int32.toNatClampNeg x1)).toInt ∧ (ps_a s47 1153 (Int32.toNatClampNeg x1)).toInt ≤ 9999 := ma_1153 (i := x1) J47 (show 0 ≤ x1.toInt from by omega) (show x1.toInt < 40 from by omega)
          have u56 : (ps_a s47 1153 (Int32.toNatClampNeg x1)).toInt = (ps_a s 1153 (Int32.toNatClampNeg x1)).toInt := xeq (kp_a K47 1153 rfl _)
          exact ms_255_89 (x1 := x1) (σ := σ) k  ((0 : Int32) + ((41 : Int32) * (ps_a s 1153 (Int32.toNatClampNeg x1)))) v46 _ J47 K48 hS hC hA hO (show 0 ≤ x1.toInt from by omega) (show x1.toInt < 40 from by omega) (show (ps_i s 1131 51).toInt ≤ 100 from by omega) (show (ps_i s47 1131 51).toInt = (ps_i s 1131 51).toInt from by omega) (show (ps_a s47 1152 (Int32.toNatClampNeg x1)).toInt = 9 from by omega) (show ((0 : Int32) + ((41 : Int32) * (ps_a s 1153 (Int32.toNatClampNeg x1)))).toInt = 41 * (ps_a s47 1153 (Int32.toNatClampNeg x1)).toInt from by omega) ((by first | exact Or.inr ⟨p, q, (by rw [show ps_a s47 1134 = ps_a s 1134 from (KC.2 1134 rfl).1]; exact hl1), hp1, hp2, hv2⟩ | exact Or.inl (by first | rfl | omega)))
        · have f57_k : v46.toInt ≠ (0 : Int) := xne h49_k
          refine pg_245_0 ?_
          refine ps_nd_i (show pm_in x1 40 = true from xgi (show 0 ≤ x1.toInt from by omega) (show x1.toInt < 40 from by omega)) ?_
          have r58_k : 0 ≤ (ps_a s47 1154 (Int32.toNatClampNeg x1)).toInt ∧ (ps_a s47 1154 (Int32.toNatClampNeg x1)).toInt ≤ 9999 := ma_1154 (i := x1) J47 (show 0 ≤ x1.toInt from by omega) (show x1.toInt < 40 from by omega)
          have u59 : (ps_a s47 1154 (Int32.toNatClampNeg x1)).toInt = (ps_a s 1154 (Int32.toNatClampNeg x1)).toInt := xeq (kp_a K47 1154 rfl _)
          have r60_k : 0 ≤ (ps_a s 1154 (Int32.toNatClampNeg x1)).toInt ∧ (ps_a s 1154 (Int32.toNatClampNeg x1)).toInt ≤ 9999 := ma_1154 (i := x1) J (show 0 ≤ x1.toInt from by omega) (show x1.toInt < 40 from by omega)
          refine pg_242_0 ?_
          have a61_k : ((41 : Int32) * (ps_a s47 1154 (Int32.toNatClampNeg x1))).toInt = (41 : Int) * (ps_a s47 1154 (Int32.toNatClampNeg x1)).toInt := xIm (show -2147483648 ≤ (41 : Int) * (ps_a s47 1154 (Int32.toNatClampNeg x1)).toInt from by omega) (show (41 : Int) * (ps_a s47 1154 (Int32.toNatClampNeg x1)).toInt < 2147483648 from by omega)
          have a62_k : ((0 : Int32) + ((41 : Int32) * (ps_a s47 1154 (Int32.toNatClampNeg x1)))).toInt = (0 : Int) + ((41 : Int32) * (ps_a s47 1154 (Int32.toNatClampNeg x1))).toInt := xIa (show -2147483648 ≤ (0 : Int) + ((41 : Int32) * (ps_a s47 1154 (Int32.toNatClampNeg x1))).toInt from by omega) (show (0 : Int) + ((41 : Int32) * (ps_a s47 1154 (Int32.toNatClampNeg x1))).toInt < 2147483648 from by omega)
          refine ms_230 J47 (show ((0 : Int32) + ((41 : Int32) * (ps_a s47 1154 (Int32.toNatClampNeg x1)))).toInt % 41 = 0 from by omega) (show 0 ≤ ((0 : Int32) + ((41 : Int32) * (ps_a s47 1154 (Int32.toNatClampNeg x1)))).toInt from by omega) (show ((0 : Int32) + ((41 : Int32) * (ps_a s47 1154 (Int32.toNatClampNeg x1)))).toInt < 27306 from by omega) (fun v63 b63 => ?_)
          refine And.intro (fun h64_k => ?_) (fun h64_k => ?_)
          · have f65_k : v63.toInt ≠ (0 : Int) := xne h64_k
            have r66_k := mf_51 J47
            have u67 : (ps_i s47 1131 51).toInt = (ps_i s 1131 51).toInt := xeq (kp_i K47 51 rfl)
            have r68_k : 0 ≤ (ps_a s47 1152 (Int32.toNatClampNeg x1)).toInt ∧ (ps_a s47 1152 (Int32.toNatClampNeg x1)).toInt ≤ 18 := ma_1152 (i := x1) J47 (show 0 ≤ x1.toInt from by omega) (show x1.toInt < 40 from by omega)
            have u69 : (ps_a s47 1152 (Int32.toNatClampNeg x1)).toInt = (ps_a s 1152 (Int32.toNatClampNeg x1)).toInt := xeq (kp_a K47 1152 rfl _)
            have r70_k : -1 ≤ (ps_a s47 1153 (Int32.toNatClampNeg x1)).toInt ∧ (ps_a s47 1153 (Int32.toNatClampNeg x1)).toInt ≤ 9999 := ma_1153 (i := x1) J47 (show 0 ≤ x1.toInt from by omega) (show x1.toInt < 40 from by omega)
            have u71 : (ps_a s47 1153 (Int32.toNatClampNeg x1)).toInt = (ps_a s 1153 (Int32.toNatClampNeg x1)).toInt := xeq (kp_a K47 1153 rfl _)
            exact ms_255_94 (x1 := x1) (σ := σ) k  ((0 : Int32) + ((41 : Int32) * (ps_a s 1153 (Int32.toNatClampNeg x1)))) v46 _ J47 K48 hS hC hA hO (show 0 ≤ x1.toInt from by omega) (show x1.toInt < 40 from by omega) (show (ps_i s 1131 51).toInt ≤ 100 from by omega) (show (ps_i s47 1131 51).toInt = (ps_i s 1131 51).toInt from by omega) (show (ps_a s47 1152 (Int32.toNatClampNeg x1)).toInt = 9 from by omega) (show ((0 : Int32) + ((41 : Int32) * (ps_a s 1153 (Int32.toNatClampNeg x1)))).toInt = 41 * (ps_a s47 1153 (Int32.toNatClampNeg x1)).toInt from by omega) ((by first | exact Or.inr ⟨p, q, (by rw [show ps_a s47 1134 = ps_a s 1134 from (KC.2 1134 rfl).1]; exact hl1), hp1, hp2, hv2⟩ | exact Or.inl (by first | rfl | omega)))
          · have f72_k : v63.toInt = (0 : Int) := xeq h64_k
            have r73_k := mf_51 J47
            have u74 : (ps_i s47 1131 51).toInt = (ps_i s 1131 51).toInt := xeq (kp_i K47 51 rfl)
            have r75_k : 0 ≤ (ps_a s47 1152 (Int32.toNatClampNeg x1)).toInt ∧ (ps_a s47 1152 (Int32.toNatClampNeg x1)).toInt ≤ 18 := ma_1152 (i := x1) J47 (show 0 ≤ x1.toInt from by omega) (show x1.toInt < 40 from by omega)
            have u76 : (ps_a s47 1152 (Int32.toNatClampNeg x1)).toInt = (ps_a s 1152 (Int32.toNatClampNeg x1)).toInt := xeq (kp_a K47 1152 rfl _)
            have r77_k : -1 ≤ (ps_a s47 1153 (Int32.toNatClampNeg x1)).toInt ∧ (ps_a s47 1153 (Int32.toNatClampNeg x1)).toInt ≤ 9999 := ma_1153 (i := x1) J47 (show 0 ≤ x1.toInt from by omega) (show x1.toInt < 40 from by omega)
            have u78 : (ps_a s47 1153 (Int32.toNatClampNeg x1)).toInt = (ps_a s 1153 (Int32.toNatClampNeg x1)).toInt := xeq (kp_a K47 1153 rfl _)
            exact ms_255_89 (x1 := x1) (σ := σ) k  ((0 : Int32) + ((41 : Int32) * (ps_a s 1153 (Int32.toNatClampNeg x1)))) v46 _ J47 K48 hS hC hA hO (show 0 ≤ x1.toInt from by omega) (show x1.toInt < 40 from by omega) (show (ps_i s 1131 51).toInt ≤ 100 from by omega) (show (ps_i s47 1131 51).toInt = (ps_i s 1131 51).toInt from by omega) (show (ps_a s47 1152 (Int32.toNatClampNeg x1)).toInt = 9 from by omega) (show ((0 : Int32) + ((41 : Int32) * (ps_a s 1153 (Int32.toNatClampNeg x1)))).toInt = 41 * (ps_a s47 1153 (Int32.toNatClampNeg x1)).toInt from by omega) ((by first | exact Or.inr ⟨p, q, (by rw [show ps_a s47 1134 = ps_a s 1134 from (KC.2 1134 rfl).1]; exact hl1), hp1, hp2, hv2⟩ | exact Or.inl (by first | rfl | omega)))
  · have f79_k : (ps_a s 1152 (Int32.toNatClampNeg x1)).toInt = (8 : Int) := xeq h8_k
    refine ms_256 J hS hC hA hM (show 0 ≤ x1.toInt from by omega) (show x1.toInt < 40 from by omega) (show (ps_i s 1131 51).toInt ≤ 100 from by omega) (show (ps_a s 1152 (Int32.toNatClampNeg x1)).toInt = 8 from by omega) (fun s80 J80 K80 p80_0 p80_1 p80_2 p80_3 p80_4 => ?_)
    have K81 := kpt K K80 rfl rfl
    have KC := K80
    have hS : Sg (ps_a s80 1135) (ps_a s80 1136) (ps_a s80 1138) (ps_a s80 1139) (ps_i s80 1131 21).toInt σ := by rw [show ps_a s80 1135 = ps_a s 1135 from (K80.2 1135 rfl).1, show ps_a s80 1136 = ps_a s 1136 from (K80.2 1136 rfl).1, show ps_a s80 1138 = ps_a s 1138 from (K80.2 1138 rfl).1, show ps_a s80 1139 = ps_a s 1139 from (K80.2 1139 rfl).1, show ps_i s80 1131 21 = ps_i s 1131 21 from kp_i K80 21 rfl]; exact hS
    have p80_2' : (ps_i s 1131 51).toInt ≤ (ps_i s80 1131 51).toInt := p80_2
    have r82_k := mf_51 J80
    have p80_3' : (ps_i s80 1131 51).toInt ≤ (ps_i s 1131 51).toInt + 36 := p80_3
    have hA : As σ (ps_a s80 1134) x1.toInt (ps_i s80 1131 51).toInt := p80_0
    have hO : OutB (ps_a s 1134) (ps_a s80 1134) x1.toInt := p80_1
    have hRs : Res σ (ps_a s80 1149) (ps_i s80 1131 34).toInt (ps_i s80 1131 50).toInt := p80_4
    exact k _ J80 K81 hA hO (show (ps_i s 1131 51).toInt ≤ (ps_i s80 1131 51).toInt from by omega) (show (ps_i s80 1131 51).toInt ≤ (ps_i s 1131 51).toInt + 36 from by omega) hRs
