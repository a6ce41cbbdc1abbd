set_option maxRecDepth 100000
-- ProofBenchModel.takesOpen(I)V
theorem pg_258_0 {d : Nat} {x1 : Int32} {s : ps_S} {Q : Option Value → ps_S → Prop} (h :
  ps_Cl d 244 [.ref 1131, .int x1] s (ps_rI (fun v1 s1 =>
    ps_Cl d 247 [.ref 1131, .int v1] s1 (ps_rI (fun v2 s2 =>
      (v2 = 5 →
        ps_nd (pm_in x1 40) (ps_Cl d 223 [.ref 1131, .int v1, .int (ps_a s2 1156 (Int32.toNatClampNeg x1))] s2 (ps_rI (fun v3 s3 =>
          (v3 ≠ 0 →
            ps_At (d + 1) 258 53 [(0, .ref 1131), (1, .int x1), (2, .int v1)] [] s3 Q) ∧
          (v3 = 0 →
            ps_Cl d 245 [.ref 1131, .int x1] s3 (ps_rI (fun v4 s4 =>
              ps_nd (pm_in x1 40) (ps_Cl d 223 [.ref 1131, .int v4, .int (ps_a s4 1156 (Int32.toNatClampNeg x1))] s4 (ps_rI (fun v5 s5 =>
                (v5 = 0 →
                  ps_At (d + 1) 258 58 [(0, .ref 1131), (1, .int x1), (2, .int v1)] [] s5 Q) ∧
                (v5 ≠ 0 →
                  ps_At (d + 1) 258 53 [(0, .ref 1131), (1, .int x1), (2, .int v1)] [] s5 Q))))))))))) ∧
      (v2 ≠ 5 →
        ps_Cl d 241 [.ref 1131, .int 2] s2 (ps_rV (fun s6 =>
          Q none s6)))))))) : ps_At (d + 1) 258 0 [(0, .ref 1131), (1, .int x1)] [] s Q :=
  ps_wp_at (stops := [(53, [0, 1, 2]), (58, [0, 1, 2]), (72, [0, 1, 3])]) (n := 33) h rfl

theorem pg_258_53 {d : Nat} {x1 : Int32} {x2 : Int32} {s : ps_S} {Q : Option Value → ps_S → Prop} (h :
  ps_Cl d 241 [.ref 1131, .int 3] s (ps_rV (fun s1 =>
    ps_At (d + 1) 258 58 [(0, .ref 1131), (1, .int x1), (2, .int x2)] [] s1 Q))) : ps_At (d + 1) 258 53 [(0, .ref 1131), (1, .int x1), (2, .int x2)] [] s Q :=
  ps_wp_at (stops := [(53, [0, 1, 2]), (58, [0, 1, 2]), (72, [0, 1, 3])]) (n := 5) h rfl

theorem pg_258_58 {d : Nat} {x1 : Int32} {x2 : Int32} {s : ps_S} {Q : Option Value → ps_S → Prop} (h :
  ps_nd (pm_in x1 40) (ps_Cl d 231 [.ref 1131, .int x2, .int (-1), .int (ps_a s 1156 (Int32.toNatClampNeg x1))] s (ps_rV (fun s1 =>
    ps_At (d + 1) 258 72 [(0, .ref 1131), (1, .int x1), (3, .int 0)] [] s1 Q)))) : ps_At (d + 1) 258 58 [(0, .ref 1131), (1, .int x1), (2, .int x2)] [] s Q :=
  ps_wp_at (stops := [(53, [0, 1, 2]), (58, [0, 1, 2]), (72, [0, 1, 3])]) (n := 12) h rfl

theorem pg_258_72 {d : Nat} {x1 : Int32} {x3 : Int32} {s : ps_S} {Q : Option Value → ps_S → Prop} (h :
  ps_nd (pm_in x1 40) (ps_nd (pm_in (ps_a s 1154 (Int32.toNatClampNeg x1)) 41) (((ps_a s 1157 (Int32.toNatClampNeg (ps_a s 1154 (Int32.toNatClampNeg x1)))) ≤ x3 →
    ps_nd (pm_in x1 40) (ps_Cl d 249 [.ref 1131, .int x1, .int (ps_a s 1153 (Int32.toNatClampNeg x1)), .int 0] s (ps_rV (fun s1 =>
      ps_nd (pm_in x1 40) (ps_Cl d 249 [.ref 1131, .int x1, .int (ps_a s1 1154 (Int32.toNatClampNeg x1)), .int 1] s1 (ps_rV (fun s2 =>
        ps_Cl d 245 [.ref 1131, .int x1] (ps_ui s2 1131 34 0) (ps_rI (fun v3 s3 =>
          ps_Cl d 227 [.ref 1131, .int v3] s3 (ps_rV (fun s4 =>
            Q none s4))))))))))) ∧
  (x3 < (ps_a s 1157 (Int32.toNatClampNeg (ps_a s 1154 (Int32.toNatClampNeg x1)))) →
    ps_nd (pm_in x1 40) (ps_Cl d 243 [.int (ps_a s 1154 (Int32.toNatClampNeg x1)), .int x3] s (ps_rI (fun v5 s5 =>
      ps_Cl d 230 [.ref 1131, .int v5] s5 (ps_rI (fun v6 s6 =>
        (v6 ≠ 0 →
          ps_At (d + 1) 258 72 [(0, .ref 1131), (1, .int x1), (3, .int (x3 + 1))] [] s6 Q) ∧
        (v6 = 0 →
          ps_nd (pm_in x1 40) (ps_Cl d 223 [.ref 1131, .int v5, .int (ps_a s6 1156 (Int32.toNatClampNeg x1))] s6 (ps_rI (fun v7 s7 =>
            (v7 = 0 →
              ps_At (d + 1) 258 72 [(0, .ref 1131), (1, .int x1), (3, .int (x3 + 1))] [] s7 Q) ∧
            (v7 ≠ 0 →
              ps_Cl d 241 [.ref 1131, .int 3] s7 (ps_rV (fun s8 =>
                ps_At (d + 1) 258 72 [(0, .ref 1131), (1, .int x1), (3, .int (x3 + 1))] [] s8 Q)))))))))))))))) : ps_At (d + 1) 258 72 [(0, .ref 1131), (1, .int x1), (3, .int x3)] [] s Q :=
  ps_wp_at (stops := [(53, [0, 1, 2]), (58, [0, 1, 2]), (72, [0, 1, 3])]) (n := 64) h rfl

theorem ms_258_72 {x : Nat → Nat → Nat} {t : Int32} {d : Nat} {s0 : ps_S} {σ : mSig} {x1 : Int32} {Q : Option Value → ps_S → Prop} (k : ∀ (s' : ps_S), mJ x t s' → kp [1134, 1149, 1150] [34, 50, 51] s0 s' → (As σ (ps_a s' 1134) x1.toInt (ps_i s' 1131 51).toInt) → (OutB (ps_a s0 1134) (ps_a s' 1134) x1.toInt) → ((ps_i s0 1131 51).toInt ≤ (ps_i s' 1131 51).toInt) → ((ps_i s' 1131 51).toInt ≤ (ps_i s0 1131 51).toInt + 36) → (Res σ (ps_a s' 1149) (ps_i s' 1131 34).toInt (ps_i s' 1131 50).toInt) → Q none s') : ∀ (n : Nat) (x3 : Int32) (s : ps_S), (mJ x t s) → (kp [1134, 1149, 1150] [34, 50, 51] s0 s) → (Sg (ps_a s 1135) (ps_a s 1136) (ps_a s 1138) (ps_a s 1139) (ps_i s 1131 21).toInt σ) → (SC σ (ps_a s 1134) (ps_a s 1157) (ps_a s 1152) (ps_a s 1153) (ps_a s 1154) (ps_a s 1155) (ps_i s 1131 21).toInt x1.toInt) → (As σ (ps_a s 1134) x1.toInt (ps_i s 1131 51).toInt) → (OutB (ps_a s0 1134) (ps_a s 1134) x1.toInt) → (0 ≤ x1.toInt) → (x1.toInt < 40) → ((ps_i s0 1131 51).toInt ≤ 100) → ((ps_i s 1131 51).toInt = (ps_i s0 1131 51).toInt) → ((ps_a s 1152 (Int32.toNatClampNeg x1)).toInt = 14) → (0 ≤ x3.toInt) → (x3.toInt ≤ 12) → 20 - x3.toInt ≤ (n : Int) → ps_At (d + 4) 258 72 [(0, .ref 1131), (1, .int x1), (3, .int x3)] [] s Q := by
  refine xstr (fun n ih => ?_)
  intro x3 s J K hS hC hA hO i4_k i5_k i6_k i7_k i8_k i9_k i10_k hm
  have r1_k := mf_51 J
  have r2_k : 0 ≤ (ps_a s 1152 (Int32.toNatClampNeg x1)).toInt ∧ (ps_a s 1152 (Int32.toNatClampNeg x1)).toInt ≤ 18 := ma_1152 (i := x1) J (show 0 ≤ x1.toInt from by omega) (show x1.toInt < 40 from by omega)
  refine pg_258_72 (d := d + 3) ?_
  have q1_k := SC_l1 hC rfl ⟨by omega, by omega, by omega, by omega⟩
  have q2_k := SC_l2 hC rfl (by omega)
  obtain ⟨lb, hb1, hb2⟩ := SC_2i hC rfl (by omega)
  have hRb : Rw (ps_a s 1134) (41 * (ps_a s 1154 (Int32.toNatClampNeg x1)).toInt) lb := hb1
  have hlb := hb1.2.2.2.1
  have hgb := ma_1154 (i := x1) J (by omega) (by omega)
  have g0 := SC_g0 hC rfl
  refine ps_nd_i (show pm_in x1 40 = true from xgi (show 0 ≤ x1.toInt from by omega) (show x1.toInt < 40 from by omega)) ?_
  have r3_k : 0 ≤ (ps_a s 1154 (Int32.toNatClampNeg x1)).toInt ∧ (ps_a s 1154 (Int32.toNatClampNeg x1)).toInt ≤ 9999 := ma_1154 (i := x1) J (show 0 ≤ x1.toInt from by omega) (show x1.toInt < 40 from by omega)
  refine ps_nd_i (show pm_in (ps_a s 1154 (Int32.toNatClampNeg x1)) 41 = true from xgi (show 0 ≤ (ps_a s 1154 (Int32.toNatClampNeg x1)).toInt from by omega) (show (ps_a s 1154 (Int32.toNatClampNeg x1)).toInt < 41 from by omega)) ?_
  have r4_k : 0 ≤ (ps_a s 1157 (Int32.toNatClampNeg (ps_a s 1154 (Int32.toNatClampNeg x1)))).toInt ∧ (ps_a s 1157 (Int32.toNatClampNeg (ps_a s 1154 (Int32.toNatClampNeg x1)))).toInt ≤ 12 := ma_1157 (i := (ps_a s 1154 (Int32.toNatClampNeg x1))) J (show 0 ≤ (ps_a s 1154 (Int32.toNatClampNeg x1)).toInt from by omega) (show (ps_a s 1154 (Int32.toNatClampNeg x1)).toInt < 41 from by omega)
  refine And.intro (fun h5_k => ?_) (fun h5_k => ?_)
  · have f6_k : (ps_a s 1157 (Int32.toNatClampNeg (ps_a s 1154 (Int32.toNatClampNeg x1)))).toInt ≤ x3.toInt := xle h5_k
    refine ps_nd_i (show pm_in x1 40 = true from xgi (show 0 ≤ x1.toInt from by omega) (show x1.toInt < 40 from by omega)) ?_
    have r7_k : -1 ≤ (ps_a s 1153 (Int32.toNatClampNeg x1)).toInt ∧ (ps_a s 1153 (Int32.toNatClampNeg x1)).toInt ≤ 9999 := ma_1153 (i := x1) J (show 0 ≤ x1.toInt from by omega) (show x1.toInt < 40 from by omega)
    refine ms_249 J hA ((SC_p hC)) (show 0 ≤ x1.toInt from by omega) (show x1.toInt < 40 from by omega) (show 0 ≤ (ps_a s 1153 (Int32.toNatClampNeg x1)).toInt from by omega) (show (ps_a s 1153 (Int32.toNatClampNeg x1)).toInt < x1.toInt from by omega) (show (ps_i s 1131 51).toInt ≤ 800 from by omega) (fun s8 J8 K8 p8_0 p8_1 p8_2 p8_3 => ?_)
    have K9 := kpt K K8 rfl rfl
    have KC := K8
    have hS : Sg (ps_a s8 1135) (ps_a s8 1136) (ps_a s8 1138) (ps_a s8 1139) (ps_i s8 1131 21).toInt σ := by rw [show ps_a s8 1135 = ps_a s 1135 from (K8.2 1135 rfl).1, show ps_a s8 1136 = ps_a s 1136 from (K8.2 1136 rfl).1, show ps_a s8 1138 = ps_a s 1138 from (K8.2 1138 rfl).1, show ps_a s8 1139 = ps_a s 1139 from (K8.2 1139 rfl).1, show ps_i s8 1131 21 = ps_i s 1131 21 from kp_i K8 21 rfl]; exact hS
    have p8_2' : (ps_i s 1131 51).toInt ≤ (ps_i s8 1131 51).toInt := p8_2
    have r10_k := mf_51 J8
    have p8_3' : (ps_i s8 1131 51).toInt ≤ (ps_i s 1131 51).toInt + 12 := p8_3
    have hA : As σ (ps_a s8 1134) x1.toInt (ps_i s8 1131 51).toInt := p8_0
    have ho : _ := p8_1
    have hO := OutB_tr hO ho
    have hC : SC σ (ps_a s8 1134) (ps_a s8 1157) (ps_a s8 1152) (ps_a s8 1153) (ps_a s8 1154) (ps_a s8 1155) (ps_i s8 1131 21).toInt x1.toInt := by rw [show ps_a s8 1157 = ps_a s 1157 from (KC.2 1157 rfl).1, show ps_a s8 1152 = ps_a s 1152 from (KC.2 1152 rfl).1, show ps_a s8 1153 = ps_a s 1153 from (KC.2 1153 rfl).1, show ps_a s8 1154 = ps_a s 1154 from (KC.2 1154 rfl).1, show ps_a s8 1155 = ps_a s 1155 from (KC.2 1155 rfl).1, show ps_i s8 1131 21 = ps_i s 1131 21 from kp_i KC 21 rfl]; exact SC_out hC ho
    have hRb : Rw (ps_a s8 1134) (41 * (ps_a s 1154 (Int32.toNatClampNeg x1)).toInt) lb := Rw_out hRb ho (by omega)
    refine ps_nd_i (show pm_in x1 40 = true from xgi (show 0 ≤ x1.toInt from by omega) (show x1.toInt < 40 from by omega)) ?_
    have r11_k : 0 ≤ (ps_a s8 1154 (Int32.toNatClampNeg x1)).toInt ∧ (ps_a s8 1154 (Int32.toNatClampNeg x1)).toInt ≤ 9999 := ma_1154 (i := x1) J8 (show 0 ≤ x1.toInt from by omega) (show x1.toInt < 40 from by omega)
    have u12 : (ps_a s8 1154 (Int32.toNatClampNeg x1)).toInt = (ps_a s 1154 (Int32.toNatClampNeg x1)).toInt := xeq (kp_a K8 1154 rfl _)
    refine ms_249 J8 hA ((SC_p hC)) (show 0 ≤ x1.toInt from by omega) (show x1.toInt < 40 from by omega) (show 0 ≤ (ps_a s8 1154 (Int32.toNatClampNeg x1)).toInt from by omega) (show (ps_a s8 1154 (Int32.toNatClampNeg x1)).toInt < x1.toInt from by omega) (show (ps_i s8 1131 51).toInt ≤ 800 from by omega) (fun s13 J13 K13 p13_0 p13_1 p13_2 p13_3 => ?_)
    have K14 := kpt K9 K13 rfl rfl
    have KC := K13
    have hS : Sg (ps_a s13 1135) (ps_a s13 1136) (ps_a s13 1138) (ps_a s13 1139) (ps_i s13 1131 21).toInt σ := by rw [show ps_a s13 1135 = ps_a s8 1135 from (K13.2 1135 rfl).1, show ps_a s13 1136 = ps_a s8 1136 from (K13.2 1136 rfl).1, show ps_a s13 1138 = ps_a s8 1138 from (K13.2 1138 rfl).1, show ps_a s13 1139 = ps_a s8 1139 from (K13.2 1139 rfl).1, show ps_i s13 1131 21 = ps_i s8 1131 21 from kp_i K13 21 rfl]; exact hS
    have p13_2' : (ps_i s8 1131 51).toInt ≤ (ps_i s13 1131 51).toInt := p13_2
    have r15_k := mf_51 J13
    have p13_3' : (ps_i s13 1131 51).toInt ≤ (ps_i s8 1131 51).toInt + 12 := p13_3
    have hA : As σ (ps_a s13 1134) x1.toInt (ps_i s13 1131 51).toInt := p13_0
    have ho : _ := p13_1
    have hO := OutB_tr hO ho
    have hC : SC σ (ps_a s13 1134) (ps_a s13 1157) (ps_a s13 1152) (ps_a s13 1153) (ps_a s13 1154) (ps_a s13 1155) (ps_i s13 1131 21).toInt x1.toInt := by rw [show ps_a s13 1157 = ps_a s8 1157 from (KC.2 1157 rfl).1, show ps_a s13 1152 = ps_a s8 1152 from (KC.2 1152 rfl).1, show ps_a s13 1153 = ps_a s8 1153 from (KC.2 1153 rfl).1, show ps_a s13 1154 = ps_a s8 1154 from (KC.2 1154 rfl).1, show ps_a s13 1155 = ps_a s8 1155 from (KC.2 1155 rfl).1, show ps_i s13 1131 21 = ps_i s8 1131 21 from kp_i KC 21 rfl]; exact SC_out hC ho
    have hRb : Rw (ps_a s13 1134) (41 * (ps_a s 1154 (Int32.toNatClampNeg x1)).toInt) lb := Rw_out hRb ho (by omega)
    have J16 := mwi_34 (v := (0 : Int32)) J13 (show 0 ≤ (0 : Int) from by omega) (show (0 : Int) ≤ 100000 from by omega)
    have K17 := kpi K14 (q := 34) (v := (0 : Int32)) rfl
    have hM : Md (ps_a (ps_ui s13 1131 34 0) 1149) (ps_i (ps_ui s13 1131 34 0) 1131 34).toInt ([] : List Nat) := Md_nil rfl
    refine pg_245_0 ?_
    refine ps_nd_i (show pm_in x1 40 = true from xgi (show 0 ≤ x1.toInt from by omega) (show x1.toInt < 40 from by omega)) ?_
    have r18_k : 0 ≤ (ps_a s13 1154 (Int32.toNatClampNeg x1)).toInt ∧ (ps_a s13 1154 (Int32.toNatClampNeg x1)).toInt ≤ 9999 := ma_1154 (i := x1) J13 (show 0 ≤ x1.toInt from by omega) (show x1.toInt < 40 from by omega)
    have u19 : (ps_a s13 1154 (Int32.toNatClampNeg x1)).toInt = (ps_a s8 1154 (Int32.toNatClampNeg x1)).toInt := xeq (kp_a K13 1154 rfl _)
    refine pg_242_0 ?_
    have a20_k : ((41 : Int32) * (ps_a s13 1154 (Int32.toNatClampNeg x1))).toInt = (41 : Int) * (ps_a s13 1154 (Int32.toNatClampNeg x1)).toInt := xIm (show -2147483648 ≤ (41 : Int) * (ps_a s13 1154 (Int32.toNatClampNeg x1)).toInt from by omega) (show (41 : Int) * (ps_a s13 1154 (Int32.toNatClampNeg x1)).toInt < 2147483648 from by omega)
    have a21_k : ((0 : Int32) + ((41 : Int32) * (ps_a s13 1154 (Int32.toNatClampNeg x1)))).toInt = (0 : Int) + ((41 : Int32) * (ps_a s13 1154 (Int32.toNatClampNeg x1))).toInt := xIa (show -2147483648 ≤ (0 : Int) + ((41 : Int32) * (ps_a s13 1154 (Int32.toNatClampNeg x1))).toInt from by omega) (show (0 : Int) + ((41 : Int32) * (ps_a s13 1154 (Int32.toNatClampNeg x1))).toInt < 2147483648 from by omega)
    refine ms_227 J16 ((show Rw (ps_a (ps_ui s13 1131 34 0) 1134) (((0 : Int32) + ((41 : Int32) * (ps_a s13 1154 (Int32.toNatClampNeg x1))))).toInt lb from by rw [show (((0 : Int32) + ((41 : Int32) * (ps_a s13 1154 (Int32.toNatClampNeg x1))))).toInt = (41 * (ps_a s 1154 (Int32.toNatClampNeg x1)).toInt) from by omega]; exact hRb)) (hM) ((by rw [List.length_nil]; omega)) (fun s22 J22 K22 p22_0 => ?_)
    have K23 := kpt K17 K22 rfl rfl
    have KC := K22
    have hS : Sg (ps_a s22 1135) (ps_a s22 1136) (ps_a s22 1138) (ps_a s22 1139) (ps_i s22 1131 21).toInt σ := by rw [show ps_a s22 1135 = ps_a (ps_ui s13 1131 34 0) 1135 from (K22.2 1135 rfl).1, show ps_a s22 1136 = ps_a (ps_ui s13 1131 34 0) 1136 from (K22.2 1136 rfl).1, show ps_a s22 1138 = ps_a (ps_ui s13 1131 34 0) 1138 from (K22.2 1138 rfl).1, show ps_a s22 1139 = ps_a (ps_ui s13 1131 34 0) 1139 from (K22.2 1139 rfl).1, show ps_i s22 1131 21 = ps_i (ps_ui s13 1131 34 0) 1131 21 from kp_i K22 21 rfl]; exact hS
    have hA : As σ (ps_a s22 1134) x1.toInt (ps_i s22 1131 51).toInt := by rw [show ps_a s22 1134 = ps_a (ps_ui s13 1131 34 0) 1134 from (K22.2 1134 rfl).1, show ps_i s22 1131 51 = ps_i (ps_ui s13 1131 34 0) 1131 51 from kp_i K22 51 rfl]; exact hA
    have hO : OutB (ps_a s0 1134) (ps_a s22 1134) x1.toInt := by rw [show ps_a s22 1134 = ps_a (ps_ui s13 1131 34 0) 1134 from (K22.2 1134 rfl).1]; exact hO
    have hC : SC σ (ps_a s22 1134) (ps_a s22 1157) (ps_a s22 1152) (ps_a s22 1153) (ps_a s22 1154) (ps_a s22 1155) (ps_i s22 1131 21).toInt x1.toInt := by rw [show ps_a s22 1134 = ps_a (ps_ui s13 1131 34 0) 1134 from (K22.2 1134 rfl).1, show ps_a s22 1157 = ps_a (ps_ui s13 1131 34 0) 1157 from (K22.2 1157 rfl).1, show ps_a s22 1152 = ps_a (ps_ui s13 1131 34 0) 1152 from (K22.2 1152 rfl).1, show ps_a s22 1153 = ps_a (ps_ui s13 1131 34 0) 1153 from (K22.2 1153 rfl).1, show ps_a s22 1154 = ps_a (ps_ui s13 1131 34 0) 1154 from (K22.2 1154 rfl).1, show ps_a s22 1155 = ps_a (ps_ui s13 1131 34 0) 1155 from (K22.2 1155 rfl).1, show ps_i s22 1131 21 = ps_i (ps_ui s13 1131 34 0) 1131 21 from kp_i K22 21 rfl]; exact hC
    have hRb : Rw (ps_a s22 1134) (41 * (ps_a s 1154 (Int32.toNatClampNeg x1)).toInt) lb := by rw [show ps_a s22 1134 = ps_a (ps_ui s13 1131 34 0) 1134 from (K22.2 1134 rfl).1]; exact hRb
    have hM1 : Md (ps_a s22 1149) (ps_i s22 1131 34).toInt ([] ++ lb) := p22_0
    have r24_k := mf_51 J22
    have u25 : (ps_i s22 1131 51).toInt = (ps_i s13 1131 51).toInt := xeq (kp_i K22 51 rfl)
    exact k _ J22 K23 hA hO (show (ps_i s0 1131 51).toInt ≤ (ps_i s22 1131 51).toInt from by omega) (show (ps_i s22 1131 51).toInt ≤ (ps_i s0 1131 51).toInt + 36 from by omega) (⟨_, hM1, by simp only [List.length_append, List.length_cons, List.length_nil]; omega, Or.inl (wf_ws hb2)⟩)
  · have f26_k : x3.toInt < (ps_a s 1157 (Int32.toNatClampNeg (ps_a s 1154 (Int32.toNatClampNeg x1)))).toInt := xlt h5_k
    refine ps_nd_i (show pm_in x1 40 = true from xgi (show 0 ≤ x1.toInt from by omega) (show x1.toInt < 40 from by omega)) ?_
    refine pg_243_0 ?_
    have a27_k : ((12 : Int32) * (ps_a s 1154 (Int32.toNatClampNeg x1))).toInt = (12 : Int) * (ps_a s 1154 (Int32.toNatClampNeg x1)).toInt := xIm (show -2147483648 ≤ (12 : Int) * (ps_a s 1154 (Int32.toNatClampNeg x1)).toInt from by omega) (show (12 : Int) * (ps_a s 1154 (Int32.toNatClampNeg x1)).toInt < 2147483648 from by omega)
    have a28_k : (((12 : Int32) * (ps_a s 1154 (Int32.toNatClampNeg x1))) + x3).toInt = ((12 : Int32) * (ps_a s 1154 (Int32.toNatClampNeg x1))).toInt + x3.toInt := xIa (show -2147483648 ≤ ((12 : Int32) * (ps_a s 1154 (Int32.toNatClampNeg x1))).toInt + x3.toInt from by omega) (show ((12 : Int32) * (ps_a s 1154 (Int32.toNatClampNeg x1))).toInt + x3.toInt < 2147483648 from by omega)
    have a29_k : ((41 : Int32) * (((12 : Int32) * (ps_a s 1154 (Int32.toNatClampNeg x1))) + x3)).toInt = (41 : Int) * (((12 : Int32) * (ps_a s 1154 (Int32.toNatClampNeg x1))) + x3).toInt := xIm (show -2147483648 ≤ (41 : Int) * (((12 : Int32) * (ps_a s 1154 (Int32.toNatClampNeg x1))) + x3).toInt from by omega) (show (41 : Int) * (((12 : Int32) * (ps_a s 1154 (Int32.toNatClampNeg x1))) + x3).toInt < 2147483648 from by omega)
    have a30_k : ((1640 : Int32) + ((41 : Int32) * (((12 : Int32) * (ps_a s 1154 (Int32.toNatClampNeg x1))) + x3))).toInt = (1640 : Int) + ((41 : Int32) * (((12 : Int32) * (ps_a s 1154 (Int32.toNatClampNeg x1))) + x3)).toInt := xIa (show -2147483648 ≤ (1640 : Int) + ((41 : Int32) * (((12 : Int32) * (ps_a s 1154 (Int32.toNatClampNeg x1))) + x3)).toInt from by omega) (show (1640 : Int) + ((41 : Int32) * (((12 : Int32) * (ps_a s 1154 (Int32.toNatClampNeg x1))) + x3)).toInt < 2147483648 from by omega)
    obtain ⟨lr, hr1, hr2⟩ : Fm σ (ps_a s 1134) ((1640 : Int32) + ((41 : Int32) * (((12 : Int32) * (ps_a s 1154 (Int32.toNatClampNeg x1))) + x3))).toInt := by rw [show ((1640 : Int32) + ((41 : Int32) * (((12 : Int32) * (ps_a s 1154 (Int32.toNatClampNeg x1))) + x3))).toInt = 1640 + 41 * (12 * (((ps_a s 1154 (Int32.toNatClampNeg x1)).toInt.toNat : Nat) : Int) + ((x3.toInt.toNat : Nat) : Int)) from by omega]; exact ((SC_p hC) ((ps_a s 1154 (Int32.toNatClampNeg x1)).toInt).toNat (by omega)).2 (x3.toInt).toNat (by show ((x3.toInt.toNat : Nat) : Int) < (ps_a s 1157 (Int32.toNatClampNeg (ps_a s 1154 (Int32.toNatClampNeg x1)))).toInt; omega) (by omega)
    refine ms_230 J (show ((1640 : Int32) + ((41 : Int32) * (((12 : Int32) * (ps_a s 1154 (Int32.toNatClampNeg x1))) + x3))).toInt % 41 = 0 from by omega) (show 0 ≤ ((1640 : Int32) + ((41 : Int32) * (((12 : Int32) * (ps_a s 1154 (Int32.toNatClampNeg x1))) + x3))).toInt from by omega) (show ((1640 : Int32) + ((41 : Int32) * (((12 : Int32) * (ps_a s 1154 (Int32.toNatClampNeg x1))) + x3))).toInt < 27306 from by omega) (fun v31 b31 => ?_)
    refine And.intro (fun h32_k => ?_) (fun h32_k => ?_)
    · have f33_k : v31.toInt ≠ (0 : Int) := xne h32_k
      have a34_k : (x3 + 1).toInt = x3.toInt + (1 : Int) := xIa (show -2147483648 ≤ x3.toInt + (1 : Int) from by omega) (show x3.toInt + (1 : Int) < 2147483648 from by omega)
      exact ih (n - 1) (show n - 1 < n from by omega) (x3 + 1) _ J K hS hC hA hO (show 0 ≤ x1.toInt from by omega) (show x1.toInt < 40 from by omega) (show (ps_i s0 1131 51).toInt ≤ 100 from by omega) (show (ps_i s 1131 51).toInt = (ps_i s0 1131 51).toInt from by omega) (show (ps_a s 1152 (Int32.toNatClampNeg x1)).toInt = 14 from by omega) (show 0 ≤ (x3 + 1).toInt from by omega) (show (x3 + 1).toInt ≤ 12 from by omega) (show 20 - (x3 + 1).toInt ≤ ((n - 1 : Nat) : Int) from by omega)
    · have f35_k : v31.toInt = (0 : Int) := xeq h32_k
      refine ps_nd_i (show pm_in x1 40 = true from xgi (show 0 ≤ x1.toInt from by omega) (show x1.toInt < 40 from by omega)) ?_
      have r36_k : 0 ≤ (ps_a s 1156 (Int32.toNatClampNeg x1)).toInt ∧ (ps_a s 1156 (Int32.toNatClampNeg x1)).toInt ≤ 11 := ma_1156 (i := x1) J (show 0 ≤ x1.toInt from by omega) (show x1.toInt < 40 from by omega)
      refine ms_223 J (hr1) (show 0 ≤ (ps_a s 1156 (Int32.toNatClampNeg x1)).toInt from by omega) (show (ps_a s 1156 (Int32.toNatClampNeg x1)).toInt ≤ 11 from by omega) (fun v37 p37_0 b37 => ?_)
      refine And.intro (fun h38_k => ?_) (fun h38_k => ?_)
      · have f39_k : v37.toInt = (0 : Int) := xeq h38_k
        have a40_k : (x3 + 1).toInt = x3.toInt + (1 : Int) := xIa (show -2147483648 ≤ x3.toInt + (1 : Int) from by omega) (show x3.toInt + (1 : Int) < 2147483648 from by omega)
        exact ih (n - 1) (show n - 1 < n from by omega) (x3 + 1) _ J K hS hC hA hO (show 0 ≤ x1.toInt from by omega) (show x1.toInt < 40 from by omega) (show (ps_i s0 1131 51).toInt ≤ 100 from by omega) (show (ps_i s 1131 51).toInt = (ps_i s0 1131 51).toInt from by omega) (show (ps_a s 1152 (Int32.toNatClampNeg x1)).toInt = 14 from by omega) (show 0 ≤ (x3 + 1).toInt from by omega) (show (x3 + 1).toInt ≤ 12 from by omega) (show 20 - (x3 + 1).toInt ≤ ((n - 1 : Nat) : Int) from by omega)
      · have f41_k : v37.toInt ≠ (0 : Int) := xne h38_k
        refine ms_241 J (show 1 ≤ (3 : Int) from by omega) (show (3 : Int) ≤ 5 from by omega) (fun s42 J42 K42 p42_0 => ?_)
        have K43 := kpt K K42 rfl rfl
        have KC := K42
        have hS : Sg (ps_a s42 1135) (ps_a s42 1136) (ps_a s42 1138) (ps_a s42 1139) (ps_i s42 1131 21).toInt σ := by rw [show ps_a s42 1135 = ps_a s 1135 from (K42.2 1135 rfl).1, show ps_a s42 1136 = ps_a s 1136 from (K42.2 1136 rfl).1, show ps_a s42 1138 = ps_a s 1138 from (K42.2 1138 rfl).1, show ps_a s42 1139 = ps_a s 1139 from (K42.2 1139 rfl).1, show ps_i s42 1131 21 = ps_i s 1131 21 from kp_i K42 21 rfl]; exact hS
        have hC : SC σ (ps_a s42 1134) (ps_a s42 1157) (ps_a s42 1152) (ps_a s42 1153) (ps_a s42 1154) (ps_a s42 1155) (ps_i s42 1131 21).toInt x1.toInt := by rw [show ps_a s42 1134 = ps_a s 1134 from (K42.2 1134 rfl).1, show ps_a s42 1157 = ps_a s 1157 from (K42.2 1157 rfl).1, show ps_a s42 1152 = ps_a s 1152 from (K42.2 1152 rfl).1, show ps_a s42 1153 = ps_a s 1153 from (K42.2 1153 rfl).1, show ps_a s42 1154 = ps_a s 1154 from (K42.2 1154 rfl).1, show ps_a s42 1155 = ps_a s 1155 from (K42.2 1155 rfl).1, show ps_i s42 1131 21 = ps_i s 1131 21 from kp_i K42 21 rfl]; exact hC
        have hA : As σ (ps_a s42 1134) x1.toInt (ps_i s42 1131 51).toInt := by rw [show ps_a s42 1134 = ps_a s 1134 from (K42.2 1134 rfl).1, show ps_i s42 1131 51 = ps_i s 1131 51 from kp_i K42 51 rfl]; exact hA
        have hO : OutB (ps_a s0 1134) (ps_a s42 1134) x1.toInt := by rw [show ps_a s42 1134 = ps_a s 1134 from (K42.2 1134 rfl).1]; exact hO
        have hRb : Rw (ps_a s42 1134) (41 * (ps_a s 1154 (Int32.toNatClampNeg x1)).toInt) lb := by rw [show ps_a s42 1134 = ps_a s 1134 from (K42.2 1134 rfl).1]; exact hRb
        have p42_0' : 1 ≤ (ps_i s42 1131 50).toInt := p42_0
        have r44_k := mf_50 J42
        have a45_k : (x3 + 1).toInt = x3.toInt + (1 : Int) := xIa (show -2147483648 ≤ x3.toInt + (1 : Int) from by omega) (show x3.toInt + (1 : Int) < 2147483648 from by omega)
        have r46_k := mf_51 J42
        have u47 : (ps_i s42 1131 51).toInt = (ps_i s 1131 51).toInt := xeq (kp_i K42 51 rfl)
        have r48_k : 0 ≤ (ps_a s42 1152 (Int32.toNatClampNeg x1)).toInt ∧ (ps_a s42 1152 (Int32.toNatClampNeg x1)).toInt ≤ 18 := ma_1152 (i := x1) J42 (show 0 ≤ x1.toInt from by omega) (show x1.toInt < 40 from by omega)
        have u49 : (ps_a s42 1152 (Int32.toNatClampNeg x1)).toInt = (ps_a s 1152 (Int32.toNatClampNeg x1)).toInt := xeq (kp_a K42 1152 rfl _)
        exact ih (n - 1) (show n - 1 < n from by omega) (x3 + 1) _ J42 K43 hS hC hA hO (show 0 ≤ x1.toInt from by omega) (show x1.toInt < 40 from by omega) (show (ps_i s0 1131 51).toInt ≤ 100 from by omega) (show (ps_i s42 1131 51).toInt = (ps_i s0 1131 51).toInt from by omega) (show (ps_a s42 1152 (Int32.toNatClampNeg x1)).toInt = 14 from by omega) (show 0 ≤ (x3 + 1).toInt from by omega) (show (x3 + 1).toInt ≤ 12 from by omega) (show 20 - (x3 + 1).toInt ≤ ((n - 1 : Nat) : Int) from by omega)

theorem ms_258_58 {x : Nat → Nat → Nat} {t : Int32} {d : Nat} {s0 : ps_S} {σ : mSig} {x1 : Int32} {Q : Option Value → ps_S → Prop} (k : ∀ (s' : ps_S), mJ x t s' → kp [1134, 1149, 1150] [34, 50, 51] s0 s' → (As σ (ps_a s' 1134) x1.toInt (ps_i s' 1131 51).toInt) → (OutB (ps_a s0 1134) (ps_a s' 1134) x1.toInt) → ((ps_i s0 1131 51).toInt ≤ (ps_i s' 1131 51).toInt) → ((ps_i s' 1131 51).toInt ≤ (ps_i s0 1131 51).toInt + 36) → (Res σ (ps_a s' 1149) (ps_i s' 1131 34).toInt (ps_i s' 1131 50).toInt) → Q none s') (x2 : Int32) (s : ps_S) (J : mJ x t s) (K : kp [1134, 1149, 1150] [34, 50, 51] s0 s) (hS : Sg (ps_a s 1135) (ps_a s 1136) (ps_a s 1138) (ps_a s 1139) (ps_i s 1131 21).toInt σ) (hC : SC σ (ps_a s 1134) (ps_a s 1157) (ps_a s 1152) (ps_a s 1153) (ps_a s 1154) (ps_a s 1155) (ps_i s 1131 21).toInt x1.toInt) (hA : As σ (ps_a s 1134) x1.toInt (ps_i s 1131 51).toInt) (hO : OutB (ps_a s0 1134) (ps_a s 1134) x1.toInt) (hM : Md (ps_a s 1149) (ps_i s 1131 34).toInt ([] : List Nat)) (i5_k : 0 ≤ x1.toInt) (i6_k : x1.toInt < 40) (i7_k : (ps_i s0 1131 51).toInt ≤ 100) (i8_k : (ps_i s 1131 51).toInt = (ps_i s0 1131 51).toInt) (i9_k : (ps_a s 1152 (Int32.toNatClampNeg x1)).toInt = 14) (i10_k : x2.toInt = 41 * (ps_a s 1153 (Int32.toNatClampNeg x1)).toInt) (i11_k : (ps_a s 1134 (Int32.toNatClampNeg ((x2 + 1) + 0))).toInt = 5) : ps_At (d + 4) 258 58 [(0, .ref 1131), (1, .int x1), (2, .int x2)] [] s Q := by
  have r1_k := mf_51 J
  have r2_k : 0 ≤ (ps_a s 1152 (Int32.toNatClampNeg x1)).toInt ∧ (ps_a s 1152 (Int32.toNatClampNeg x1)).toInt ≤ 18 := ma_1152 (i := x1) J (show 0 ≤ x1.toInt from by omega) (show x1.toInt < 40 from by omega)
  have r3_k : -1 ≤ (ps_a s 1153 (Int32.toNatClampNeg x1)).toInt ∧ (ps_a s 1153 (Int32.toNatClampNeg x1)).toInt ≤ 9999 := ma_1153 (i := x1) J (show 0 ≤ x1.toInt from by omega) (show x1.toInt < 40 from by omega)
  refine pg_258_58 (d := d + 3) ?_
  obtain ⟨l, hl1, hl2⟩ := SC_1i hC rfl ⟨by omega, by omega, by omega, by omega⟩
  obtain ⟨c, l3, rfl⟩ := wf_ne hl2
  have hl1x : Rw (ps_a s 1134) x2.toInt (c :: l3) := by rw [show x2.toInt = (41 * (ps_a s 1153 (Int32.toNatClampNeg x1)).toInt) from by omega]; exact hl1
  have hp_k := Rw_p (l1 := []) (i := 0) hl1x rfl rfl
  have i11_k : (ps_a s 1134 (Int32.toNatClampNeg (x2 + 1 + 0))).toInt = (5 : Int) := i11_k
  have hc1 : c = 5 := by omega
  subst hc1
  obtain ⟨ks_k, hk_k, hw2⟩ := ws_hd (show ws σ (5 :: l3) [true] from wf_ws hl2)
  rw [kS_f1 (Or.inr rfl)] at hk_k
  cases hk_k
  refine ps_nd_i (show pm_in x1 40 = true from xgi (show 0 ≤ x1.toInt from by omega) (show x1.toInt < 40 from by omega)) ?_
  have r4_k : 0 ≤ (ps_a s 1156 (Int32.toNatClampNeg x1)).toInt ∧ (ps_a s 1156 (Int32.toNatClampNeg x1)).toInt ≤ 11 := ma_1156 (i := x1) J (show 0 ≤ x1.toInt from by omega) (show x1.toInt < 40 from by omega)
  refine ms_231 J hS (hl1x) ((Or.inl ⟨by decide, by omega, by omega⟩)) (hM) ((by decide)) ((show ws σ l3 [true] from hw2)) (fun s5 J5 K5 p5_0 => ?_)
  have K6 := kpt K K5 rfl rfl
  have KC := K5
  have hS : Sg (ps_a s5 1135) (ps_a s5 1136) (ps_a s5 1138) (ps_a s5 1139) (ps_i s5 1131 21).toInt σ := by rw [show ps_a s5 1135 = ps_a s 1135 from (K5.2 1135 rfl).1, show ps_a s5 1136 = ps_a s 1136 from (K5.2 1136 rfl).1, show ps_a s5 1138 = ps_a s 1138 from (K5.2 1138 rfl).1, show ps_a s5 1139 = ps_a s 1139 from (K5.2 1139 rfl).1, show ps_i s5 1131 21 = ps_i s 1131 21 from kp_i K5 21 rfl]; exact hS
  have hC : SC σ (ps_a s5 1134) (ps_a s5 1157) (ps_a s5 1152) (ps_a s5 1153) (ps_a s5 1154) (ps_a s5 1155) (ps_i s5 1131 21).toInt x1.toInt := by rw [show ps_a s5 1134 = ps_a s 1134 from (K5.2 1134 rfl).1, show ps_a s5 1157 = ps_a s 1157 from (K5.2 1157 rfl).1, show ps_a s5 1152 = ps_a s 1152 from (K5.2 1152 rfl).1, show ps_a s5 1153 = ps_a s 1153 from (K5.2 1153 rfl).1, show ps_a s5 1154 = ps_a s 1154 from (K5.2 1154 rfl).1, show ps_a s5 1155 = ps_a s 1155 from (K5.2 1155 rfl).1, show ps_i s5 1131 21 = ps_i s 1131 21 from kp_i K5 21 rfl]; exact hC
  have hA : As σ (ps_a s5 1134) x1.toInt (ps_i s5 1131 51).toInt := by rw [show ps_a s5 1134 = ps_a s 1134 from (K5.2 1134 rfl).1, show ps_i s5 1131 51 = ps_i s 1131 51 from kp_i K5 51 rfl]; exact hA
  have hO : OutB (ps_a s0 1134) (ps_a s5 1134) x1.toInt := by rw [show ps_a s5 1134 = ps_a s 1134 from (K5.2 1134 rfl).1]; exact hO
  have r7_k := mf_51 J5
  have u8 : (ps_i s5 1131 51).toInt = (ps_i s 1131 51).toInt := xeq (kp_i K5 51 rfl)
  have r9_k : 0 ≤ (ps_a s5 1152 (Int32.toNatClampNeg x1)).toInt ∧ (ps_a s5 1152 (Int32.toNatClampNeg x1)).toInt ≤ 18 := ma_1152 (i := x1) J5 (show 0 ≤ x1.toInt from by omega) (show x1.toInt < 40 from by omega)
  have u10 : (ps_a s5 1152 (Int32.toNatClampNeg x1)).toInt = (ps_a s 1152 (Int32.toNatClampNeg x1)).toInt := xeq (kp_a K5 1152 rfl _)
  exact ms_258_72 (x1 := x1) (σ := σ) k  (20 - (0 : Int)).toNat (0) _ J5 K6 hS hC hA hO (show 0 ≤ x1.toInt from by omega) (show x1.toInt < 40 from by omega) (show (ps_i s0 1131 51).toInt ≤ 100 from by omega) (show (ps_i s5 1131 51).toInt = (ps_i s0 1131 51).toInt from by omega) (show (ps_a s5 1152 (Int32.toNatClampNeg x1)).toInt = 14 from by omega) (show 0 ≤ (0 : Int) from by omega) (show (0 : Int) ≤ 12 from by omega) (show 20 - (0 : Int) ≤ (((20 - (0 : Int)).toNat : Nat) : Int) from by omega)

theorem ms_258_53 {x : Nat → Nat → Nat} {t : Int32} {d : Nat} {s0 : ps_S} {σ : mSig} {x1 : Int32} {Q : Option Value → ps_S → Prop} (k : ∀ (s' : ps_S), mJ x t s' → kp [1134, 1149, 1150] [34, 50, 51] s0 s' → (As σ (ps_a s' 1134) x1.toInt (ps_i s' 1131 51).toInt) → (OutB (ps_a s0 1134) (ps_a s' 1134) x1.toInt) → ((ps_i s0 1131 51).toInt ≤ (ps_i s' 1131 51).toInt) → ((ps_i s' 1131 51).toInt ≤ (ps_i s0 1131 51).toInt + 36) → (Res σ (ps_a s' 1149) (ps_i s' 1131 34).toInt (ps_i s' 1131 50).toInt) → Q none s') (x2 : Int32) (s : ps_S) (J : mJ x t s) (K : kp [1134, 1149, 1150] [34, 50, 51] s0 s) (hS : Sg (ps_a s 1135) (ps_a s 1136) (ps_a s 1138) (ps_a s 1139) (ps_i s 1131 21).toInt σ) (hC : SC σ (ps_a s 1134) (ps_a s 1157) (ps_a s 1152) (ps_a s 1153) (ps_a s 1154) (ps_a s 1155) (ps_i s 1131 21).toInt x1.toInt) (hA : As σ (ps_a s 1134) x1.toInt (ps_i s 1131 51).toInt) (hO : OutB (ps_a s0 1134) (ps_a s 1134) x1.toInt) (hM : Md (ps_a s 1149) (ps_i s 1131 34).toInt ([] : List Nat)) (i5_k : 0 ≤ x1.toInt) (i6_k : x1.toInt < 40) (i7_k : (ps_i s0 1131 51).toInt ≤ 100) (i8_k : (ps_i s 1131 51).toInt = (ps_i s0 1131 51).toInt) (i9_k : (ps_a s 1152 (Int32.toNatClampNeg x1)).toInt = 14) (i10_k : x2.toInt = 41 * (ps_a s 1153 (Int32.toNatClampNeg x1)).toInt) (i11_k : (ps_a s 1134 (Int32.toNatClampNeg ((x2 + 1) + 0))).toInt = 5) : ps_At (d + 4) 258 53 [(0, .ref 1131), (1, .int x1), (2, .int x2)] [] s Q := by
  have r1_k := mf_51 J
  have r2_k : 0 ≤ (ps_a s 1152 (Int32.toNatClampNeg x1)).toInt ∧ (ps_a s 1152 (Int32.toNatClampNeg x1)).toInt ≤ 18 := ma_1152 (i := x1) J (show 0 ≤ x1.toInt from by omega) (show x1.toInt < 40 from by omega)
  have r3_k : -1 ≤ (ps_a s 1153 (Int32.toNatClampNeg x1)).toInt ∧ (ps_a s 1153 (Int32.toNatClampNeg x1)).toInt ≤ 9999 := ma_1153 (i := x1) J (show 0 ≤ x1.toInt from by omega) (show x1.toInt < 40 from by omega)
  refine pg_258_53 (d := d + 3) ?_
  refine ms_241 J (show 1 ≤ (3 : Int) from by omega) (show (3 : Int) ≤ 5 from by omega) (fun s4 J4 K4 p4_0 => ?_)
  have K5 := kpt K K4 rfl rfl
  have KC := K4
  have hS : Sg (ps_a s4 1135) (ps_a s4 1136) (ps_a s4 1138) (ps_a s4 1139) (ps_i s4 1131 21).toInt σ := by rw [show ps_a s4 1135 = ps_a s 1135 from (K4.2 1135 rfl).1, show ps_a s4 1136 = ps_a s 1136 from (K4.2 1136 rfl).1, show ps_a s4 1138 = ps_a s 1138 from (K4.2 1138 rfl).1, show ps_a s4 1139 = ps_a s 1139 from (K4.2 1139 rfl).1, show ps_i s4 1131 21 = ps_i s 1131 21 from kp_i K4 21 rfl]; exact hS
  have hC : SC σ (ps_a s4 1134) (ps_a s4 1157) (ps_a s4 1152) (ps_a s4 1153) (ps_a s4 1154) (ps_a s4 1155) (ps_i s4 1131 21).toInt x1.toInt := by rw [show ps_a s4 1134 = ps_a s 1134 from (K4.2 1134 rfl).1, show ps_a s4 1157 = ps_a s 1157 from (K4.2 1157 rfl).1, show ps_a s4 1152 = ps_a s 1152 from (K4.2 1152 rfl).1, show ps_a s4 1153 = ps_a s 1153 from (K4.2 1153 rfl).1, show ps_a s4 1154 = ps_a s 1154 from (K4.2 1154 rfl).1, show ps_a s4 1155 = ps_a s 1155 from (K4.2 1155 rfl).1, show ps_i s4 1131 21 = ps_i s 1131 21 from kp_i K4 21 rfl]; exact hC
  have hA : As σ (ps_a s4 1134) x1.toInt (ps_i s4 1131 51).toInt := by rw [show ps_a s4 1134 = ps_a s 1134 from (K4.2 1134 rfl).1, show ps_i s4 1131 51 = ps_i s 1131 51 from kp_i K4 51 rfl]; exact hA
  have hO : OutB (ps_a s0 1134) (ps_a s4 1134) x1.toInt := by rw [show ps_a s4 1134 = ps_a s 1134 from (K4.2 1134 rfl).1]; exact hO
  have hM : Md (ps_a s4 1149) (ps_i s4 1131 34).toInt ([] : List Nat) := by rw [show ps_a s4 1149 = ps_a s 1149 from (K4.2 1149 rfl).1, show ps_i s4 1131 34 = ps_i s 1131 34 from kp_i K4 34 rfl]; exact hM
  have p4_0' : 1 ≤ (ps_i s4 1131 50).toInt := p4_0
  have r6_k := mf_50 J4
  have r7_k := mf_51 J4
  have u8 : (ps_i s4 1131 51).toInt = (ps_i s 1131 51).toInt := xeq (kp_i K4 51 rfl)
  have r9_k : 0 ≤ (ps_a s4 1152 (Int32.toNatClampNeg x1)).toInt ∧ (ps_a s4 1152 (Int32.toNatClampNeg x1)).toInt ≤ 18 := ma_1152 (i := x1) J4 (show 0 ≤ x1.toInt from by omega) (show x1.toInt < 40 from by omega)
  have u10 : (ps_a s4 1152 (Int32.toNatClampNeg x1)).toInt = (ps_a s 1152 (Int32.toNatClampNeg x1)).toInt := xeq (kp_a K4 1152 rfl _)
  have r11_k : -1 ≤ (ps_a s4 1153 (Int32.toNatClampNeg x1)).toInt ∧ (ps_a s4 1153 (Int32.toNatClampNeg x1)).toInt ≤ 9999 := ma_1153 (i := x1) J4 (show 0 ≤ x1.toInt from by omega) (show x1.toInt < 40 from by omega)
  have u12 : (ps_a s4 1153 (Int32.toNatClampNeg x1)).toInt = (ps_a s 1153 (Int32.toNatClampNeg x1)).toInt := xeq (kp_a K4 1153 rfl _)
  exact ms_258_58 (x1 := x1) (σ := σ) k  x2 _ J4 K5 hS hC hA hO hM (show 0 ≤ x1.toInt from by omega) (show x1.toInt < 40 from by omega) (show (ps_i s0 1131 51).toInt ≤ 100 from by omega) (show (ps_i s4 1131 51).toInt = (ps_i s0 1131 51).toInt from by omega) (show (ps_a s4 1152 (Int32.toNatClampNeg x1)).toInt = 14 from by omega) (show x2.toInt = 41 * (ps_a s4 1153 (Int32.toNatClampNeg x1)).toInt from by omega) ((by rw [show ps_a s4 1134 = ps_a s 1134 from (KC.2 1134 rfl).1]; exact i11_k))

theorem ms_258 {x : Nat → Nat → Nat} {t : Int32} {s : ps_S} {d : Nat} {x1 : Int32} {f : ps_S → Prop} (J : mJ x t s) {σ : mSig} (hS : Sg (ps_a s 1135) (ps_a s 1136) (ps_a s 1138) (ps_a s 1139) (ps_i s 1131 21).toInt σ) (hC : SC σ (ps_a s 1134) (ps_a s 1157) (ps_a s 1152) (ps_a s 1153) (ps_a s 1154) (ps_a s 1155) (ps_i s 1131 21).toInt x1.toInt) (hA : As σ (ps_a s 1134) x1.toInt (ps_i s 1131 51).toInt) (hM : Md (ps_a s 1149) (ps_i s 1131 34).toInt ([] : List Nat)) (q4_k : 0 ≤ x1.toInt) (q5_k : x1.toInt < 40) (q6_k : (ps_i s 1131 51).toInt ≤ 100) (q7_k : (ps_a s 1152 (Int32.toNatClampNeg x1)).toInt = 14) (k : ∀ (s' : ps_S), mJ x t s' → kp [1134, 1149, 1150] [34, 50, 51] s s' → (As σ (ps_a s' 1134) x1.toInt (ps_i s' 1131 51).toInt) → (OutB (ps_a s 1134) (ps_a s' 1134) x1.toInt) → ((ps_i s 1131 51).toInt ≤ (ps_i s' 1131 51).toInt) → ((ps_i s' 1131 51).toInt ≤ (ps_i s 1131 51).toInt + 36) → (Res σ (ps_a s' 1149) (ps_i s' 1131 34).toInt (ps_i s' 1131 50).toInt) → f s') : ps_Cl (d + 4) 258 [.ref 1131, .int x1] s (ps_rV f) := by
  have r1_k := mf_51 J
  have r2_k : 0 ≤ (ps_a s 1152 (Int32.toNatClampNeg x1)).toInt ∧ (ps_a s 1152 (Int32.toNatClampNeg x1)).toInt ≤ 18 := ma_1152 (i := x1) J (show 0 ≤ x1.toInt from by omega) (show x1.toInt < 40 from by omega)
  have K : kp [1134, 1149, 1150] [34, 50, 51] s s := kp_refl
  refine pg_258_0 (d := d + 3) ?_
  have hO : OutB (ps_a s 1134) (ps_a s 1134) x1.toInt := OutB_refl
  have q1_k := SC_l1 hC rfl ⟨by omega, by omega, by omega, by omega⟩
  have q2_k := SC_l2 hC rfl (by omega)
  obtain ⟨lb, hb1, hb2⟩ := SC_2i hC rfl (by omega)
  refine pg_244_0 ?_
  refine ps_nd_i (show pm_in x1 40 = true from xgi (show 0 ≤ x1.toInt from by omega) (show x1.toInt < 40 from by omega)) ?_
  have r3_k : -1 ≤ (ps_a s 1153 (Int32.toNatClampNeg x1)).toInt ∧ (ps_a s 1153 (Int32.toNatClampNeg x1)).toInt ≤ 9999 := ma_1153 (i := x1) J (show 0 ≤ x1.toInt from by omega) (show x1.toInt < 40 from by omega)
  refine pg_242_0 ?_
  have a4_k : ((41 : Int32) * (ps_a s 1153 (Int32.toNatClampNeg x1))).toInt = (41 : Int) * (ps_a s 1153 (Int32.toNatClampNeg x1)).toInt := xIm (show -2147483648 ≤ (41 : Int) * (ps_a s 1153 (Int32.toNatClampNeg x1)).toInt from by omega) (show (41 : Int) * (ps_a s 1153 (Int32.toNatClampNeg x1)).toInt < 2147483648 from by omega)
  have a5_k : ((0 : Int32) + ((41 : Int32) * (ps_a s 1153 (Int32.toNatClampNeg x1)))).toInt = (0 : Int) + ((41 : Int32) * (ps_a s 1153 (Int32.toNatClampNeg x1))).toInt := xIa (show -2147483648 ≤ (0 : Int) + ((41 : Int32) * (ps_a s 1153 (Int32.toNatClampNeg x1))).toInt from by omega) (show (0 : Int) + ((41 : Int32) * (ps_a s 1153 (Int32.toNatClampNeg x1))).toInt < 2147483648 from by omega)
  obtain ⟨l, hl1, hl2⟩ := SC_1i hC rfl ⟨by omega, by omega, by omega, by omega⟩
  have hl1 : Rw (ps_a s 1134) (((0 : Int32) + ((41 : Int32) * (ps_a s 1153 (Int32.toNatClampNeg x1))))).toInt l := by rw [show (((0 : Int32) + ((41 : Int32) * (ps_a s 1153 (Int32.toNatClampNeg x1))))).toInt = 41 * (ps_a s 1153 (Int32.toNatClampNeg x1)).toInt from by omega]; exact hl1
  obtain ⟨c, l3, rfl⟩ := wf_ne hl2
  have hp_k := Rw_p (l1 := []) (i := 0) hl1 rfl rfl
  have w1 := hl1.1
  have w2 := hl1.2.1
  have w3 := hl1.2.2.1
  refine pg_247_0 ?_
  refine pg_220_0 ?_
  have a6_k : (((0 : Int32) + ((41 : Int32) * (ps_a s 1153 (Int32.toNatClampNeg x1)))) + 1).toInt = ((0 : Int32) + ((41 : Int32) * (ps_a s 1153 (Int32.toNatClampNeg x1)))).toInt + (1 : Int) := xIa (show -2147483648 ≤ ((0 : Int32) + ((41 : Int32) * (ps_a s 1153 (Int32.toNatClampNeg x1)))).toInt + (1 : Int) from by omega) (show ((0 : Int32) + ((41 : Int32) * (ps_a s 1153 (Int32.toNatClampNeg x1)))).toInt + (1 : Int) < 2147483648 from by omega)
  have a7_k : ((((0 : Int32) + ((41 : Int32) * (ps_a s 1153 (Int32.toNatClampNeg x1)))) + 1) + 0).toInt = (((0 : Int32) + ((41 : Int32) * (ps_a s 1153 (Int32.toNatClampNeg x1)))) + 1).toInt + (0 : Int) := xIa (show -2147483648 ≤ (((0 : Int32) + ((41 : Int32) * (ps_a s 1153 (Int32.toNatClampNeg x1)))) + 1).toInt + (0 : Int) from by omega) (show (((0 : Int32) + ((41 : Int32) * (ps_a s 1153 (Int32.toNatClampNeg x1)))) + 1).toInt + (0 : Int) < 2147483648 from by omega)
  refine ps_nd_i (show pm_in ((((0 : Int32) + ((41 : Int32) * (ps_a s 1153 (Int32.toNatClampNeg x1)))) + 1) + 0) 27400 = true from xgi (show 0 ≤ ((((0 : Int32) + ((41 : Int32) * (ps_a s 1153 (Int32.toNatClampNeg x1)))) + 1) + 0).toInt from by omega) (show ((((0 : Int32) + ((41 : Int32) * (ps_a s 1153 (Int32.toNatClampNeg x1)))) + 1) + 0).toInt < 27400 from by omega)) ?_
  have r8_k : ((((0 : Int32) + ((41 : Int32) * (ps_a s 1153 (Int32.toNatClampNeg x1)))) + 1) + 0).toInt % 41 = 0 → ((((0 : Int32) + ((41 : Int32) * (ps_a s 1153 (Int32.toNatClampNeg x1)))) + 1) + 0).toInt < 27306 → 0 ≤ (ps_a s 1134 (Int32.toNatClampNeg ((((0 : Int32) + ((41 : Int32) * (ps_a s 1153 (Int32.toNatClampNeg x1)))) + 1) + 0))).toInt ∧ (ps_a s 1134 (Int32.toNatClampNeg ((((0 : Int32) + ((41 : Int32) * (ps_a s 1153 (Int32.toNatClampNeg x1)))) + 1) + 0))).toInt ≤ 40 := fun z1_k z2_k => mp_row (i := ((((0 : Int32) + ((41 : Int32) * (ps_a s 1153 (Int32.toNatClampNeg x1)))) + 1) + 0)) J z1_k (show 0 ≤ ((((0 : Int32) + ((41 : Int32) * (ps_a s 1153 (Int32.toNatClampNeg x1)))) + 1) + 0).toInt from by omega) z2_k
  refine And.intro (fun h9_k => ?_) (fun h9_k => ?_)
  · have f10_k : (ps_a s 1134 (Int32.toNatClampNeg ((((0 : Int32) + ((41 : Int32) * (ps_a s 1153 (Int32.toNatClampNeg x1)))) + 1) + 0))).toInt = (5 : Int) := xeq h9_k
    refine ps_nd_i (show pm_in x1 40 = true from xgi (show 0 ≤ x1.toInt from by omega) (show x1.toInt < 40 from by omega)) ?_
    have r11_k : 0 ≤ (ps_a s 1156 (Int32.toNatClampNeg x1)).toInt ∧ (ps_a s 1156 (Int32.toNatClampNeg x1)).toInt ≤ 11 := ma_1156 (i := x1) J (show 0 ≤ x1.toInt from by omega) (show x1.toInt < 40 from by omega)
    refine ms_223 J (hl1) (show 0 ≤ (ps_a s 1156 (Int32.toNatClampNeg x1)).toInt from by omega) (show (ps_a s 1156 (Int32.toNatClampNeg x1)).toInt ≤ 11 from by omega) (fun v12 p12_0 b12 => ?_)
    refine And.intro (fun h13_k => ?_) (fun h13_k => ?_)
    · have f14_k : v12.toInt ≠ (0 : Int) := xne h13_k
      exact ms_258_53 (x1 := x1) (σ := σ) k  ((0 : Int32) + ((41 : Int32) * (ps_a s 1153 (Int32.toNatClampNeg x1)))) _ J K hS hC hA hO hM (show 0 ≤ x1.toInt from by omega) (show x1.toInt < 40 from by omega) (show (ps_i s 1131 51).toInt ≤ 100 from by omega) (show (ps_i s 1131 51).toInt = (ps_i s 1131 51).toInt from by omega) (show (ps_a s 1152 (Int32.toNatClampNeg x1)).toInt = 14 from by omega) (show ((0 : Int32) + ((41 : Int32) * (ps_a s 1153 (Int32.toNatClampNeg x1)))).toInt = 41 * (ps_a s 1153 (Int32.toNatClampNeg x1)).toInt from by omega) ((show (ps_a s 1134 (Int32.toNatClampNeg (((0 : Int32) + ((41 : Int32) * (ps_a s 1153 (Int32.toNatClampNeg x1)))) + 1 + 0))).toInt = 5 from by omega))
    · have f15_k : v12.toInt = (0 : Int) := xeq h13_k
      refine pg_245_0 ?_
      refine ps_nd_i (show pm_in x1 40 = true from xgi (show 0 ≤ x1.toInt from by omega) (show x1.toInt < 40 from by omega)) ?_
      have r16_k : 0 ≤ (ps_a s 1154 (Int32.toNatClampNeg x1)).toInt ∧ (ps_a s 1154 (Int32.toNatClampNeg x1)).toInt ≤ 9999 := ma_1154 (i := x1) J (show 0 ≤ x1.toInt from by omega) (show x1.toInt < 40 from by omega)
      refine pg_242_0 ?_
      have a17_k : ((41 : Int32) * (ps_a s 1154 (Int32.toNatClampNeg x1))).toInt = (41 : Int) * (ps_a s 1154 (Int32.toNatClampNeg x1)).toInt := xIm (show -2147483648 ≤ (41 : Int) * (ps_a s 1154 (Int32.toNatClampNeg x1)).toInt from by omega) (show (41 : Int) * (ps_a s 1154 (Int32.toNatClampNeg x1)).toInt < 2147483648 from by omega)
      have a18_k : ((0 : Int32) + ((41 : Int32) * (ps_a s 1154 (Int32.toNatClampNeg x1)))).toInt = (0 : Int) + ((41 : Int32) * (ps_a s 1154 (Int32.toNatClampNeg x1))).toInt := xIa (show -2147483648 ≤ (0 : Int) + ((41 : Int32) * (ps_a s 1154 (Int32.toNatClampNeg x1))).toInt from by omega) (show (0 : Int) + ((41 : Int32) * (ps_a s 1154 (Int32.toNatClampNeg x1))).toInt < 2147483648 from by omega)
      refine ps_nd_i (show pm_in x1 40 = true from xgi (show 0 ≤ x1.toInt from by omega) (show x1.toInt < 40 from by omega)) ?_
      refine ms_223 J ((show Rw (ps_a s 1134) (((0 : Int32) + ((41 : Int32) * (ps_a s 1154 (Int32.toNatClampNeg x1))))).toInt lb from by rw [show (((0 : Int32) + ((41 : Int32) * (ps_a s 1154 (Int32.toNatClampNeg x1))))).toInt = (41 * (ps_a s 1154 (Int32.toNatClampNeg x1)).toInt) from by omega]; exact hb1)) (show 0 ≤ (ps_a s 1156 (Int32.toNatClampNeg x1)).toInt from by omega) (show (ps_a s 1156 (Int32.toNatClampNeg x1)).toInt ≤ 11 from by omega) (fun v19 p19_0 b19 => ?_)
      refine And.intro (fun h20_k => ?_) (fun h20_k => ?_)
      · have f21_k : v19.toInt = (0 : Int) := xeq h20_k
        exact ms_258_58 (x1 := x1) (σ := σ) k  ((0 : Int32) + ((41 : Int32) * (ps_a s 1153 (Int32.toNatClampNeg x1)))) _ J K hS hC hA hO hM (show 0 ≤ x1.toInt from by omega) (show x1.toInt < 40 from by omega) (show (ps_i s 1131 51).toInt ≤ 100 from by omega) (show (ps_i s 1131 51).toInt = (ps_i s 1131 51).toInt from by omega) (show (ps_a s 1152 (Int32.toNatClampNeg x1)).toInt = 14 from by omega) (show ((0 : Int32) + ((41 : Int32) * (ps_a s 1153 (Int32.toNatClampNeg x1)))).toInt = 41 * (ps_a s 1153 (Int32.toNatClampNeg x1)).toInt from by omega) ((show (ps_a s 1134 (Int32.toNatClampNeg (((0 : Int32) + ((41 : Int32) * (ps_a s 1153 (Int32.toNatClampNeg x1)))) + 1 + 0))).toInt = 5 from by omega))
      · have f22_k : v19.toInt ≠ (0 : Int) := xne h20_k
        exact ms_258_53 (x1 := x1) (σ := σ) k  ((0 : Int32) + ((41 : Int32) * (ps_a s 1153 (Int32.toNatClampNeg x1)))) _ J K hS hC hA hO hM (show 0 ≤ x1.toInt from by omega) (show x1.toInt < 40 from by omega) (show (ps_i s 1131 51).toInt ≤ 100 from by omega) (show (ps_i s 1131 51).toInt = (ps_i s 1131 51).toInt from by omega) (show (ps_a s 1152 (Int32.toNatClampNeg x1)).toInt = 14 from by omega) (show ((0 : Int32) + ((41 : Int32) * (ps_a s 1153 (Int32.toNatClampNeg x1)))).toInt = 41 * (ps_a s 1153 (Int32.toNatClampNeg x1)).toInt from by omega) ((show (ps_a s 1134 (Int32.toNatClampNeg (((0 : Int32) + ((41 : Int32) * (ps_a s 1153 (Int32.toNatClampNeg x1)))) + 1 + 0))).toInt = 5 from by omega))
  · have f23_k : (ps_a s 1134 (Int32.toNatClampNeg ((((0 : Int32) + ((41 : Int32) * (ps_a s 1153 (Int32.toNatClampNeg x1)))) + 1) + 0))).toInt ≠ (5 : Int) := xne h9_k
    refine ms_241 J (show 1 ≤ (2 : Int) from by omega) (show (2 : Int) ≤ 5 from by omega) (fun s24 J24 K24 p24_0 => ?_)
    have K25 := kpt K K24 rfl rfl
    have KC := K24
    have hS : Sg (ps_a s24 1135) (ps_a s24 1136) (ps_a s24 1138) (ps_a s24 1139) (ps_i s24 1131 21).toInt σ := by rw [show ps_a s24 1135 = ps_a s 1135 from (K24.2 1135 rfl).1, show ps_a s24 1136 = ps_a s 1136 from (K24.2 1136 rfl).1, show ps_a s24 1138 = ps_a s 1138 from (K24.2 1138 rfl).1, show ps_a s24 1139 = ps_a s 1139 from (K24.2 1139 rfl).1, show ps_i s24 1131 21 = ps_i s 1131 21 from kp_i K24 21 rfl]; exact hS
    have hC : SC σ (ps_a s24 1134) (ps_a s24 1157) (ps_a s24 1152) (ps_a s24 1153) (ps_a s24 1154) (ps_a s24 1155) (ps_i s24 1131 21).toInt x1.toInt := by rw [show ps_a s24 1134 = ps_a s 1134 from (K24.2 1134 rfl).1, show ps_a s24 1157 = ps_a s 1157 from (K24.2 1157 rfl).1, show ps_a s24 1152 = ps_a s 1152 from (K24.2 1152 rfl).1, show ps_a s24 1153 = ps_a s 1153 from (K24.2 1153 rfl).1, show ps_a s24 1154 = ps_a s 1154 from (K24.2 1154 rfl).1, show ps_a s24 1155 = ps_a s 1155 from (K24.2 1155 rfl).1, show ps_i s24 1131 21 = ps_i s 1131 21 from kp_i K24 21 rfl]; exact hC
    have hA : As σ (ps_a s24 1134) x1.toInt (ps_i s24 1131 51).toInt := by rw [show ps_a s24 1134 = ps_a s 1134 from (K24.2 1134 rfl).1, show ps_i s24 1131 51 = ps_i s 1131 51 from kp_i K24 51 rfl]; exact hA
    have hM : Md (ps_a s24 1149) (ps_i s24 1131 34).toInt ([] : List Nat) := by rw [show ps_a s24 1149 = ps_a s 1149 from (K24.2 1149 rfl).1, show ps_i s24 1131 34 = ps_i s 1131 34 from kp_i K24 34 rfl]; exact hM
    have hO : OutB (ps_a s 1134) (ps_a s24 1134) x1.toInt := by rw [show ps_a s24 1134 = ps_a s 1134 from (K24.2 1134 rfl).1]; exact hO
    have p24_0' : 1 ≤ (ps_i s24 1131 50).toInt := p24_0
    have r26_k := mf_50 J24
    have r27_k := mf_51 J24
    have u28 : (ps_i s24 1131 51).toInt = (ps_i s 1131 51).toInt := xeq (kp_i K24 51 rfl)
    exact k _ J24 K25 hA hO (show (ps_i s 1131 51).toInt ≤ (ps_i s24 1131 51).toInt from by omega) (show (ps_i s24 1131 51).toInt ≤ (ps_i s 1131 51).toInt + 36 from by omega) (⟨[], hM, by decide, Or.inr ⟨rfl, show 1 ≤ (ps_i s24 1131 50).toInt from by omega⟩⟩)
