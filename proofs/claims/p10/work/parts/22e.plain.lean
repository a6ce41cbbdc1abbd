set_option maxRecDepth 100000
-- ProofBenchModel.takesPlain(I)V
theorem pg_253_0 {d : Nat} {x1 : Int32} {s : ps_S} {Q : Option Value → ps_S → Prop} (h :
  ps_Cl d 244 [.ref 1131, .int x1] s (ps_rI (fun v1 s1 =>
    ps_nd (pm_in x1 40) (((ps_a s1 1152 (Int32.toNatClampNeg x1)) = 0 →
      ps_Cl d 227 [.ref 1131, .int ((22468 : Int32) + ((41 : Int32) * x1))] s1 (ps_rV (fun s2 =>
        ps_Cl d 248 [.ref 1131, .int x1, .int ((22468 : Int32) + ((41 : Int32) * x1))] s2 (ps_rV (fun s3 =>
          Q none s3))))) ∧
    ((ps_a s1 1152 (Int32.toNatClampNeg x1)) ≠ 0 →
      ((ps_a s1 1152 (Int32.toNatClampNeg x1)) = 1 →
      ps_nd (pm_in x1 40) (ps_Cl d 227 [.ref 1131, .int ((21812 : Int32) + ((41 : Int32) * (((8 : Int32) * (ps_i s1 1131 21)) + (ps_a s1 1153 (Int32.toNatClampNeg x1)))))] s1 (ps_rV (fun s4 =>
        Q none s4)))) ∧
    ((ps_a s1 1152 (Int32.toNatClampNeg x1)) ≠ 1 →
      ((ps_a s1 1152 (Int32.toNatClampNeg x1)) = 2 →
      ps_nd (pm_in x1 40) (ps_Cl d 227 [.ref 1131, .int ((21320 : Int32) + ((41 : Int32) * (ps_a s1 1153 (Int32.toNatClampNeg x1))))] s1 (ps_rV (fun s5 =>
        Q none s5)))) ∧
    ((ps_a s1 1152 (Int32.toNatClampNeg x1)) ≠ 2 →
      ((ps_a s1 1152 (Int32.toNatClampNeg x1)) = 3 →
      ps_Cl d 225 [.ref 1131, .int 1] s1 (ps_rV (fun s6 =>
        ps_Cl d 227 [.ref 1131, .int v1] s6 (ps_rV (fun s7 =>
          ps_Cl d 245 [.ref 1131, .int x1] s7 (ps_rI (fun v8 s8 =>
            ps_Cl d 227 [.ref 1131, .int v8] s8 (ps_rV (fun s9 =>
              ps_At (d + 1) 253 202 [(0, .ref 1131), (1, .int x1)] [] s9 Q))))))))) ∧
    ((ps_a s1 1152 (Int32.toNatClampNeg x1)) ≠ 3 →
      ((ps_a s1 1152 (Int32.toNatClampNeg x1)) = 4 →
      ps_Cl d 254 [.ref 1131, .int x1, .int v1] s1 (ps_rV (fun s10 =>
        ps_At (d + 1) 253 202 [(0, .ref 1131), (1, .int x1)] [] s10 Q))) ∧
    ((ps_a s1 1152 (Int32.toNatClampNeg x1)) ≠ 4 →
      ((ps_a s1 1152 (Int32.toNatClampNeg x1)) = 5 →
      ps_Cl d 254 [.ref 1131, .int x1, .int v1] s1 (ps_rV (fun s11 =>
        ps_At (d + 1) 253 202 [(0, .ref 1131), (1, .int x1)] [] s11 Q))) ∧
    ((ps_a s1 1152 (Int32.toNatClampNeg x1)) ≠ 5 →
      ps_Cl d 225 [.ref 1131, .int 2] s1 (ps_rV (fun s12 =>
      ps_nd (pm_in x1 40) (((ps_a s12 1152 (Int32.toNatClampNeg x1)) ≠ 6 →
        ps_At (d + 1) 253 174 [(0, .ref 1131), (1, .int x1), (2, .int v1)] [] s12 Q) ∧
      ((ps_a s12 1152 (Int32.toNatClampNeg x1)) = 6 →
        ps_Cl d 227 [.ref 1131, .int v1] s12 (ps_rV (fun s13 =>
          ps_At (d + 1) 253 174 [(0, .ref 1131), (1, .int x1), (2, .int v1)] [] s13 Q)))))))))))))))) : ps_At (d + 1) 253 0 [(0, .ref 1131), (1, .int x1)] [] s Q :=
  ps_wp_at (stops := [(174, [0, 1, 2]), (202, [0, 1])]) (n := 88) h rfl

theorem pg_253_174 {d : Nat} {x1 : Int32} {x2 : Int32} {s : ps_S} {Q : Option Value → ps_S → Prop} (h :
  ps_Cl d 227 [.ref 1131, .int ((22468 : Int32) + ((41 : Int32) * x1))] s (ps_rV (fun s1 =>
    ps_nd (pm_in x1 40) (((ps_a s1 1152 (Int32.toNatClampNeg x1)) ≠ 7 →
      ps_At (d + 1) 253 202 [(0, .ref 1131), (1, .int x1)] [] s1 Q) ∧
    ((ps_a s1 1152 (Int32.toNatClampNeg x1)) = 7 →
      ps_Cl d 227 [.ref 1131, .int x2] s1 (ps_rV (fun s2 =>
        ps_At (d + 1) 253 202 [(0, .ref 1131), (1, .int x1)] [] s2 Q))))))) : ps_At (d + 1) 253 174 [(0, .ref 1131), (1, .int x1), (2, .int x2)] [] s Q :=
  ps_wp_at (stops := [(174, [0, 1, 2]), (202, [0, 1])]) (n := 18) h rfl

theorem pg_253_202 {d : Nat} {x1 : Int32} {s : ps_S} {Q : Option Value → ps_S → Prop} (h :
  ps_nd (pm_in x1 40) (ps_Cl d 249 [.ref 1131, .int x1, .int (ps_a s 1153 (Int32.toNatClampNeg x1)), .int 0] s (ps_rV (fun s1 =>
    ps_nd (pm_in x1 40) (((ps_a s1 1152 (Int32.toNatClampNeg x1)) ≠ 3 →
      Q none s1) ∧
    ((ps_a s1 1152 (Int32.toNatClampNeg x1)) = 3 →
      ps_nd (pm_in x1 40) (ps_Cl d 249 [.ref 1131, .int x1, .int (ps_a s1 1154 (Int32.toNatClampNeg x1)), .int 0] s1 (ps_rV (fun s2 =>
        Q none s2))))))))) : ps_At (d + 1) 253 202 [(0, .ref 1131), (1, .int x1)] [] s Q :=
  ps_wp_at (stops := [(174, [0, 1, 2]), (202, [0, 1])]) (n := 26) h rfl

theorem ms_253_202 {x : Nat → Nat → Nat} {t : Int32} {d : Nat} {s0 : ps_S} {σ : mSig} {x1 : Int32} {Q : Option Value → ps_S → Prop} (k : ∀ (s' : ps_S), mJ x t s' → kp [1134, 1149] [34, 50, 51] s0 s' → (As σ (ps_a s' 1134) x1.toInt (ps_i s' 1131 51).toInt) → (OutB (ps_a s0 1134) (ps_a s' 1134) x1.toInt) → ((ps_i s0 1131 51).toInt ≤ (ps_i s' 1131 51).toInt) → ((ps_i s' 1131 51).toInt ≤ (ps_i s0 1131 51).toInt + 24) → (Res σ (ps_a s' 1149) (ps_i s' 1131 34).toInt (ps_i s' 1131 50).toInt) → Q none s') (s : ps_S) (J : mJ x t s) (K : kp [1134, 1149] [34, 50, 51] s0 s) (hS : Sg (ps_a s 1135) (ps_a s 1136) (ps_a s 1138) (ps_a s 1139) (ps_i s 1131 21).toInt σ) (hC : SC σ (ps_a s 1134) (ps_a s 1157) (ps_a s 1152) (ps_a s 1153) (ps_a s 1154) (ps_a s 1155) (ps_i s 1131 21).toInt x1.toInt) (hA : As σ (ps_a s 1134) x1.toInt (ps_i s 1131 51).toInt) (hO : OutB (ps_a s0 1134) (ps_a s 1134) x1.toInt) (i4_k : 0 ≤ x1.toInt) (i5_k : x1.toInt < 40) (i6_k : (ps_i s0 1131 51).toInt ≤ 100) (i7_k : (ps_i s 1131 51).toInt = (ps_i s0 1131 51).toInt) (i8_k : 3 ≤ (ps_a s 1152 (Int32.toNatClampNeg x1)).toInt) (i9_k : (ps_a s 1152 (Int32.toNatClampNeg x1)).toInt < 8) (hRs : Res σ (ps_a s 1149) (ps_i s 1131 34).toInt (ps_i s 1131 50).toInt) : ps_At (d + 4) 253 202 [(0, .ref 1131), (1, .int x1)] [] s Q := by
  have r1_k := mf_51 J
  have r2_k : 0 ≤ (ps_a s 1152 (Int32.toNatClampNeg x1)).toInt ∧ (ps_a s 1152 (Int32.toNatClampNeg x1)).toInt ≤ 18 := ma_1152 (i := x1) J (show 0 ≤ x1.toInt from by omega) (show x1.toInt < 40 from by omega)
  refine pg_253_202 (d := d + 3) ?_
  have q1_k := SC_l1 hC rfl ⟨by omega, by omega, by omega, by omega⟩
  have g0 := SC_g0 hC rfl
  refine ps_nd_i (show pm_in x1 40 = true from xgi (show 0 ≤ x1.toInt from by omega) (show x1.toInt < 40 from by omega)) ?_
  have r3_k : -1 ≤ (ps_a s 1153 (Int32.toNatClampNeg x1)).toInt ∧ (ps_a s 1153 (Int32.toNatClampNeg x1)).toInt ≤ 9999 := ma_1153 (i := x1) J (show 0 ≤ x1.toInt from by omega) (show x1.toInt < 40 from by omega)
  refine ms_249 J hA ((SC_p hC)) (show 0 ≤ x1.toInt from by omega) (show x1.toInt < 40 from by omega) (show 0 ≤ (ps_a s 1153 (Int32.toNatClampNeg x1)).toInt from by omega) (show (ps_a s 1153 (Int32.toNatClampNeg x1)).toInt < x1.toInt from by omega) (show (ps_i s 1131 51).toInt ≤ 800 from by omega) (fun s4 J4 K4 p4_0 p4_1 p4_2 p4_3 => ?_)
  have K5 := kpt K K4 rfl rfl
  have KC := K4
  have hS : Sg (ps_a s4 1135) (ps_a s4 1136) (ps_a s4 1138) (ps_a s4 1139) (ps_i s4 1131 21).toInt σ := by rw [show ps_a s4 1135 = ps_a s 1135 from (K4.2 1135 rfl).1, show ps_a s4 1136 = ps_a s 1136 from (K4.2 1136 rfl).1, show ps_a s4 1138 = ps_a s 1138 from (K4.2 1138 rfl).1, show ps_a s4 1139 = ps_a s 1139 from (K4.2 1139 rfl).1, show ps_i s4 1131 21 = ps_i s 1131 21 from kp_i K4 21 rfl]; exact hS
  have hRs : Res σ (ps_a s4 1149) (ps_i s4 1131 34).toInt (ps_i s4 1131 50).toInt := by rw [show ps_a s4 1149 = ps_a s 1149 from (K4.2 1149 rfl).1, show ps_i s4 1131 34 = ps_i s 1131 34 from kp_i K4 34 rfl, show ps_i s4 1131 50 = ps_i s 1131 50 from kp_i K4 50 rfl]; exact hRs
  have p4_2' : (ps_i s 1131 51).toInt ≤ (ps_i s4 1131 51).toInt := p4_2
  have r6_k := mf_51 J4
  have p4_3' : (ps_i s4 1131 51).toInt ≤ (ps_i s 1131 51).toInt + 12 := p4_3
  have hA : As σ (ps_a s4 1134) x1.toInt (ps_i s4 1131 51).toInt := p4_0
  have ho : _ := p4_1
  have hO := OutB_tr hO ho
  have hC : SC σ (ps_a s4 1134) (ps_a s4 1157) (ps_a s4 1152) (ps_a s4 1153) (ps_a s4 1154) (ps_a s4 1155) (ps_i s4 1131 21).toInt x1.toInt := by rw [show ps_a s4 1157 = ps_a s 1157 from (KC.2 1157 rfl).1, show ps_a s4 1152 = ps_a s 1152 from (KC.2 1152 rfl).1, show ps_a s4 1153 = ps_a s 1153 from (KC.2 1153 rfl).1, show ps_a s4 1154 = ps_a s 1154 from (KC.2 1154 rfl).1, show ps_a s4 1155 = ps_a s 1155 from (KC.2 1155 rfl).1, show ps_i s4 1131 21 = ps_i s 1131 21 from kp_i KC 21 rfl]; exact SC_out hC ho
  refine ps_nd_i (show pm_in x1 40 = true from xgi (show 0 ≤ x1.toInt from by omega) (show x1.toInt < 40 from by omega)) ?_
  have r7_k : 0 ≤ (ps_a s4 1152 (Int32.toNatClampNeg x1)).toInt ∧ (ps_a s4 1152 (Int32.toNatClampNeg x1)).toInt ≤ 18 := ma_1152 (i := x1) J4 (show 0 ≤ x1.toInt from by omega) (show x1.toInt < 40 from by omega)
  have u8 : (ps_a s4 1152 (Int32.toNatClampNeg x1)).toInt = (ps_a s 1152 (Int32.toNatClampNeg x1)).toInt := xeq (kp_a K4 1152 rfl _)
  refine And.intro (fun h9_k => ?_) (fun h9_k => ?_)
  · have f10_k : (ps_a s4 1152 (Int32.toNatClampNeg x1)).toInt ≠ (3 : Int) := xne h9_k
    exact k _ J4 K5 hA ((by first | exact hO | exact OutB_tr hO ho)) (show (ps_i s0 1131 51).toInt ≤ (ps_i s4 1131 51).toInt from by omega) (show (ps_i s4 1131 51).toInt ≤ (ps_i s0 1131 51).toInt + 24 from by omega) hRs
  · have f11_k : (ps_a s4 1152 (Int32.toNatClampNeg x1)).toInt = (3 : Int) := xeq h9_k
    refine ps_nd_i (show pm_in x1 40 = true from xgi (show 0 ≤ x1.toInt from by omega) (show x1.toInt < 40 from by omega)) ?_
    have r12_k : 0 ≤ (ps_a s4 1154 (Int32.toNatClampNeg x1)).toInt ∧ (ps_a s4 1154 (Int32.toNatClampNeg x1)).toInt ≤ 9999 := ma_1154 (i := x1) J4 (show 0 ≤ x1.toInt from by omega) (show x1.toInt < 40 from by omega)
    have u13 : (ps_a s4 1154 (Int32.toNatClampNeg x1)).toInt = (ps_a s 1154 (Int32.toNatClampNeg x1)).toInt := xeq (kp_a K4 1154 rfl _)
    have r14_k : 0 ≤ (ps_a s 1154 (Int32.toNatClampNeg x1)).toInt ∧ (ps_a s 1154 (Int32.toNatClampNeg x1)).toInt ≤ 9999 := ma_1154 (i := x1) J (show 0 ≤ x1.toInt from by omega) (show x1.toInt < 40 from by omega)
    have q2_k := SC_l2 hC rfl (Or.inl (by omega))
    refine ms_249 J4 hA ((SC_p hC)) (show 0 ≤ x1.toInt from by omega) (show x1.toInt < 40 from by omega) (show 0 ≤ (ps_a s4 1154 (Int32.toNatClampNeg x1)).toInt from by omega) (show (ps_a s4 1154 (Int32.toNatClampNeg x1)).toInt < x1.toInt from by omega) (show (ps_i s4 1131 51).toInt ≤ 800 from by omega) (fun s15 J15 K15 p15_0 p15_1 p15_2 p15_3 => ?_)
    have K16 := kpt K5 K15 rfl rfl
    have KC := K15
    have hS : Sg (ps_a s15 1135) (ps_a s15 1136) (ps_a s15 1138) (ps_a s15 1139) (ps_i s15 1131 21).toInt σ := by rw [show ps_a s15 1135 = ps_a s4 1135 from (K15.2 1135 rfl).1, show ps_a s15 1136 = ps_a s4 1136 from (K15.2 1136 rfl).1, show ps_a s15 1138 = ps_a s4 1138 from (K15.2 1138 rfl).1, show ps_a s15 1139 = ps_a s4 1139 from (K15.2 1139 rfl).1, show ps_i s15 1131 21 = ps_i s4 1131 21 from kp_i K15 21 rfl]; exact hS
    have hRs : Res σ (ps_a s15 1149) (ps_i s15 1131 34).toInt (ps_i s15 1131 50).toInt := by rw [show ps_a s15 1149 = ps_a s4 1149 from (K15.2 1149 rfl).1, show ps_i s15 1131 34 = ps_i s4 1131 34 from kp_i K15 34 rfl, show ps_i s15 1131 50 = ps_i s4 1131 50 from kp_i K15 50 rfl]; exact hRs
    have p15_2' : (ps_i s4 1131 51).toInt ≤ (ps_i s15 1131 51).toInt := p15_2
    have r17_k := mf_51 J15
    have p15_3' : (ps_i s15 1131 51).toInt ≤ (ps_i s4 1131 51).toInt + 12 := p15_3
    have hA : As σ (ps_a s15 1134) x1.toInt (ps_i s15 1131 51).toInt := p15_0
    have ho : _ := p15_1
    exact k _ J15 K16 hA ((by first | exact hO | exact OutB_tr hO ho)) (show (ps_i s0 1131 51).toInt ≤ (ps_i s15 1131 51).toInt from by omega) (show (ps_i s15 1131 51).toInt ≤ (ps_i s0 1131 51).toInt + 24 from by omega) hRs

theorem ms_253_174 {x : Nat → Nat → Nat} {t : Int32} {d : Nat} {s0 : ps_S} {σ : mSig} {x1 : Int32} {Q : Option Value → ps_S → Prop} (k : ∀ (s' : ps_S), mJ x t s' → kp [1134, 1149] [34, 50, 51] s0 s' → (As σ (ps_a s' 1134) x1.toInt (ps_i s' 1131 51).toInt) → (OutB (ps_a s0 1134) (ps_a s' 1134) x1.toInt) → ((ps_i s0 1131 51).toInt ≤ (ps_i s' 1131 51).toInt) → ((ps_i s' 1131 51).toInt ≤ (ps_i s0 1131 51).toInt + 24) → (Res σ (ps_a s' 1149) (ps_i s' 1131 34).toInt (ps_i s' 1131 50).toInt) → Q none s') (x2 : Int32) (s : ps_S) (J : mJ x t s) (K : kp [1134, 1149] [34, 50, 51] s0 s) (hS : Sg (ps_a s 1135) (ps_a s 1136) (ps_a s 1138) (ps_a s 1139) (ps_i s 1131 21).toInt σ) (hC : SC σ (ps_a s 1134) (ps_a s 1157) (ps_a s 1152) (ps_a s 1153) (ps_a s 1154) (ps_a s 1155) (ps_i s 1131 21).toInt x1.toInt) (hA : As σ (ps_a s 1134) x1.toInt (ps_i s 1131 51).toInt) (hO : OutB (ps_a s0 1134) (ps_a s 1134) x1.toInt) (i4_k : 0 ≤ x1.toInt) (i5_k : x1.toInt < 40) (i6_k : (ps_i s0 1131 51).toInt ≤ 100) (i7_k : (ps_i s 1131 51).toInt = (ps_i s0 1131 51).toInt) (i8_k : (ps_a s 1152 (Int32.toNatClampNeg x1)).toInt = 6 ∨ (ps_a s 1152 (Int32.toNatClampNeg x1)).toInt = 7) (i9_k : x2.toInt = 41 * (ps_a s 1153 (Int32.toNatClampNeg x1)).toInt) (i10_k : ∃ ml, Md (ps_a s 1149) (ps_i s 1131 34).toInt ml ∧ ml.length ≤ 50 ∧ (((ps_a s 1152 (Int32.toNatClampNeg x1)).toInt = 6 ∧ ∀ m : List Nat, ws σ m [true] → ws σ (ml ++ m) [true]) ∨ ((ps_a s 1152 (Int32.toNatClampNeg x1)).toInt = 7 ∧ ∀ m : List Nat, ws σ m [true, true] → ws σ (ml ++ m) [true]))) : ps_At (d + 4) 253 174 [(0, .ref 1131), (1, .int x1), (2, .int x2)] [] s Q := by
  have r1_k := mf_51 J
  have r2_k : 0 ≤ (ps_a s 1152 (Int32.toNatClampNeg x1)).toInt ∧ (ps_a s 1152 (Int32.toNatClampNeg x1)).toInt ≤ 18 := ma_1152 (i := x1) J (show 0 ≤ x1.toInt from by omega) (show x1.toInt < 40 from by omega)
  have r3_k : -1 ≤ (ps_a s 1153 (Int32.toNatClampNeg x1)).toInt ∧ (ps_a s 1153 (Int32.toNatClampNeg x1)).toInt ≤ 9999 := ma_1153 (i := x1) J (show 0 ≤ x1.toInt from by omega) (show x1.toInt < 40 from by omega)
  refine pg_253_174 (d := d + 3) ?_
  obtain ⟨ml, hml1, hml2, hml3⟩ := i10_k
  have a4_k : ((41 : Int32) * x1).toInt = (41 : Int) * x1.toInt := xIm (show -2147483648 ≤ (41 : Int) * x1.toInt from by omega) (show (41 : Int) * x1.toInt < 2147483648 from by omega)
  have a5_k : ((22468 : Int32) + ((41 : Int32) * x1)).toInt = (22468 : Int) + ((41 : Int32) * x1).toInt := xIa (show -2147483648 ≤ (22468 : Int) + ((41 : Int32) * x1).toInt from by omega) (show (22468 : Int) + ((41 : Int32) * x1).toInt < 2147483648 from by omega)
  obtain ⟨l, hl1, hl2⟩ := SC_f (j := ((22468 : Int32) + ((41 : Int32) * x1))) hC rfl (by omega) (by omega)
  have hlen := hl1.2.2.2.1
  have hA1 := SC_1i hC rfl (by omega)
  refine ms_227 J (hl1) (hml1) ((by omega)) (fun s6 J6 K6 p6_0 => ?_)
  have K7 := kpt K K6 rfl rfl
  have KC := K6
  have hS : Sg (ps_a s6 1135) (ps_a s6 1136) (ps_a s6 1138) (ps_a s6 1139) (ps_i s6 1131 21).toInt σ := by rw [show ps_a s6 1135 = ps_a s 1135 from (K6.2 1135 rfl).1, show ps_a s6 1136 = ps_a s 1136 from (K6.2 1136 rfl).1, show ps_a s6 1138 = ps_a s 1138 from (K6.2 1138 rfl).1, show ps_a s6 1139 = ps_a s 1139 from (K6.2 1139 rfl).1, show ps_i s6 1131 21 = ps_i s 1131 21 from kp_i K6 21 rfl]; exact hS
  have hC : SC σ (ps_a s6 1134) (ps_a s6 1157) (ps_a s6 1152) (ps_a s6 1153) (ps_a s6 1154) (ps_a s6 1155) (ps_i s6 1131 21).toInt x1.toInt := by rw [show ps_a s6 1134 = ps_a s 1134 from (K6.2 1134 rfl).1, show ps_a s6 1157 = ps_a s 1157 from (K6.2 1157 rfl).1, show ps_a s6 1152 = ps_a s 1152 from (K6.2 1152 rfl).1, show ps_a s6 1153 = ps_a s 1153 from (K6.2 1153 rfl).1, show ps_a s6 1154 = ps_a s 1154 from (K6.2 1154 rfl).1, show ps_a s6 1155 = ps_a s 1155 from (K6.2 1155 rfl).1, show ps_i s6 1131 21 = ps_i s 1131 21 from kp_i K6 21 rfl]; exact hC
  have hA : As σ (ps_a s6 1134) x1.toInt (ps_i s6 1131 51).toInt := by rw [show ps_a s6 1134 = ps_a s 1134 from (K6.2 1134 rfl).1, show ps_i s6 1131 51 = ps_i s 1131 51 from kp_i K6 51 rfl]; exact hA
  have hO : OutB (ps_a s0 1134) (ps_a s6 1134) x1.toInt := by rw [show ps_a s6 1134 = ps_a s 1134 from (K6.2 1134 rfl).1]; exact hO
  have hA1 : Fm σ (ps_a s6 1134) (41 * (ps_a s 1153 (Int32.toNatClampNeg x1)).toInt) := by rw [show ps_a s6 1134 = ps_a s 1134 from (K6.2 1134 rfl).1]; exact hA1
  have hM2 : Md (ps_a s6 1149) (ps_i s6 1131 34).toInt (ml ++ l) := p6_0
  refine ps_nd_i (show pm_in x1 40 = true from xgi (show 0 ≤ x1.toInt from by omega) (show x1.toInt < 40 from by omega)) ?_
  have r8_k : 0 ≤ (ps_a s6 1152 (Int32.toNatClampNeg x1)).toInt ∧ (ps_a s6 1152 (Int32.toNatClampNeg x1)).toInt ≤ 18 := ma_1152 (i := x1) J6 (show 0 ≤ x1.toInt from by omega) (show x1.toInt < 40 from by omega)
  have u9 : (ps_a s6 1152 (Int32.toNatClampNeg x1)).toInt = (ps_a s 1152 (Int32.toNatClampNeg x1)).toInt := xeq (kp_a K6 1152 rfl _)
  refine And.intro (fun h10_k => ?_) (fun h10_k => ?_)
  · have f11_k : (ps_a s6 1152 (Int32.toNatClampNeg x1)).toInt ≠ (7 : Int) := xne h10_k
    have r12_k := mf_51 J6
    have u13 : (ps_i s6 1131 51).toInt = (ps_i s 1131 51).toInt := xeq (kp_i K6 51 rfl)
    exact ms_253_202 (x1 := x1) (σ := σ) k   _ J6 K7 hS hC hA hO (show 0 ≤ x1.toInt from by omega) (show x1.toInt < 40 from by omega) (show (ps_i s0 1131 51).toInt ≤ 100 from by omega) (show (ps_i s6 1131 51).toInt = (ps_i s0 1131 51).toInt from by omega) (show 3 ≤ (ps_a s6 1152 (Int32.toNatClampNeg x1)).toInt from by omega) (show (ps_a s6 1152 (Int32.toNatClampNeg x1)).toInt < 8 from by omega) (⟨_, hM2, by simp only [List.length_append, List.length_cons, List.length_nil]; omega, Or.inl (by rcases hml3 with ⟨z1_k, z2_k⟩ | ⟨z1_k, z2_k⟩; exact z2_k l (wf_ws hl2); exact absurd z1_k (by omega))⟩)
  · have f14_k : (ps_a s6 1152 (Int32.toNatClampNeg x1)).toInt = (7 : Int) := xeq h10_k
    obtain ⟨la, hla1, hla2⟩ := id hA1
    have hlen2 := hla1.2.2.2.1
    refine ms_227 J6 ((by rw [show (x2).toInt = 41 * (ps_a s 1153 (Int32.toNatClampNeg x1)).toInt from by omega]; exact hla1)) (hM2) ((by simp only [List.length_append, List.length_cons, List.length_nil]; omega)) (fun s15 J15 K15 p15_0 => ?_)
    have K16 := kpt K7 K15 rfl rfl
    have KC := K15
    have hS : Sg (ps_a s15 1135) (ps_a s15 1136) (ps_a s15 1138) (ps_a s15 1139) (ps_i s15 1131 21).toInt σ := by rw [show ps_a s15 1135 = ps_a s6 1135 from (K15.2 1135 rfl).1, show ps_a s15 1136 = ps_a s6 1136 from (K15.2 1136 rfl).1, show ps_a s15 1138 = ps_a s6 1138 from (K15.2 1138 rfl).1, show ps_a s15 1139 = ps_a s6 1139 from (K15.2 1139 rfl).1, show ps_i s15 1131 21 = ps_i s6 1131 21 from kp_i K15 21 rfl]; exact hS
    have hC : SC σ (ps_a s15 1134) (ps_a s15 1157) (ps_a s15 1152) (ps_a s15 1153) (ps_a s15 1154) (ps_a s15 1155) (ps_i s15 1131 21).toInt x1.toInt := by rw [show ps_a s15 1134 = ps_a s6 1134 from (K15.2 1134 rfl).1, show ps_a s15 1157 = ps_a s6 1157 from (K15.2 1157 rfl).1, show ps_a s15 1152 = ps_a s6 1152 from (K15.2 1152 rfl).1, show ps_a s15 1153 = ps_a s6 1153 from (K15.2 1153 rfl).1, show ps_a s15 1154 = ps_a s6 1154 from (K15.2 1154 rfl).1, show ps_a s15 1155 = ps_a s6 1155 from (K15.2 1155 rfl).1, show ps_i s15 1131 21 = ps_i s6 1131 21 from kp_i K15 21 rfl]; exact hC
    have hA : As σ (ps_a s15 1134) x1.toInt (ps_i s15 1131 51).toInt := by rw [show ps_a s15 1134 = ps_a s6 1134 from (K15.2 1134 rfl).1, show ps_i s15 1131 51 = ps_i s6 1131 51 from kp_i K15 51 rfl]; exact hA
    have hO : OutB (ps_a s0 1134) (ps_a s15 1134) x1.toInt := by rw [show ps_a s15 1134 = ps_a s6 1134 from (K15.2 1134 rfl).1]; exact hO
    have hA1 : Fm σ (ps_a s15 1134) (41 * (ps_a s 1153 (Int32.toNatClampNeg x1)).toInt) := by rw [show ps_a s15 1134 = ps_a s6 1134 from (K15.2 1134 rfl).1]; exact hA1
    have hM3 : Md (ps_a s15 1149) (ps_i s15 1131 34).toInt ((ml ++ l) ++ la) := p15_0
    have r17_k := mf_51 J15
    have u18 : (ps_i s15 1131 51).toInt = (ps_i s6 1131 51).toInt := xeq (kp_i K15 51 rfl)
    have r19_k := mf_51 J6
    have u20 : (ps_i s6 1131 51).toInt = (ps_i s 1131 51).toInt := xeq (kp_i K6 51 rfl)
    have r21_k : 0 ≤ (ps_a s15 1152 (Int32.toNatClampNeg x1)).toInt ∧ (ps_a s15 1152 (Int32.toNatClampNeg x1)).toInt ≤ 18 := ma_1152 (i := x1) J15 (show 0 ≤ x1.toInt from by omega) (show x1.toInt < 40 from by omega)
    have u22 : (ps_a s15 1152 (Int32.toNatClampNeg x1)).toInt = (ps_a s6 1152 (Int32.toNatClampNeg x1)).toInt := xeq (kp_a K15 1152 rfl _)
    exact ms_253_202 (x1 := x1) (σ := σ) k   _ J15 K16 hS hC hA hO (show 0 ≤ x1.toInt from by omega) (show x1.toInt < 40 from by omega) (show (ps_i s0 1131 51).toInt ≤ 100 from by omega) (show (ps_i s15 1131 51).toInt = (ps_i s0 1131 51).toInt from by omega) (show 3 ≤ (ps_a s15 1152 (Int32.toNatClampNeg x1)).toInt from by omega) (show (ps_a s15 1152 (Int32.toNatClampNeg x1)).toInt < 8 from by omega) (⟨_, hM3, by simp only [List.length_append, List.length_cons, List.length_nil]; omega, Or.inl (by rcases hml3 with ⟨z1_k, z2_k⟩ | ⟨z1_k, z2_k⟩; exact absurd z1_k (by omega); rw [List.append_assoc]; exact z2_k (l ++ la) (ws_app (W1 := [true]) (W2 := [true]) (wf_ws hl2) (wf_ws hla2)))⟩)

theorem ms_253 {x : Nat → Nat → Nat} {t : Int32} {s : ps_S} {d : Nat} {x1 : Int32} {f : ps_S → Prop} (J : mJ x t s) {σ : mSig} (hS : Sg (ps_a s 1135) (ps_a s 1136) (ps_a s 1138) (ps_a s 1139) (ps_i s 1131 21).toInt σ) (hC : SC σ (ps_a s 1134) (ps_a s 1157) (ps_a s 1152) (ps_a s 1153) (ps_a s 1154) (ps_a s 1155) (ps_i s 1131 21).toInt x1.toInt) (hA : As σ (ps_a s 1134) x1.toInt (ps_i s 1131 51).toInt) (hM : Md (ps_a s 1149) (ps_i s 1131 34).toInt ([] : List Nat)) (q4_k : 0 ≤ x1.toInt) (q5_k : x1.toInt < 40) (q6_k : (ps_i s 1131 51).toInt ≤ 100) (q7_k : (ps_a s 1152 (Int32.toNatClampNeg x1)).toInt < 8) (k : ∀ (s' : ps_S), mJ x t s' → kp [1134, 1149] [34, 50, 51] s s' → (As σ (ps_a s' 1134) x1.toInt (ps_i s' 1131 51).toInt) → (OutB (ps_a s 1134) (ps_a s' 1134) x1.toInt) → ((ps_i s 1131 51).toInt ≤ (ps_i s' 1131 51).toInt) → ((ps_i s' 1131 51).toInt ≤ (ps_i s 1131 51).toInt + 24) → (Res σ (ps_a s' 1149) (ps_i s' 1131 34).toInt (ps_i s' 1131 50).toInt) → f s') : ps_Cl (d + 4) 253 [.ref 1131, .int x1] s (ps_rV f) := by
  have r1_k := mf_51 J
  have r2_k : 0 ≤ (ps_a s 1152 (Int32.toNatClampNeg x1)).toInt ∧ (ps_a s 1152 (Int32.toNatClampNeg x1)).toInt ≤ 18 := ma_1152 (i := x1) J (show 0 ≤ x1.toInt from by omega) (show x1.toInt < 40 from by omega)
  have K : kp [1134, 1149] [34, 50, 51] s s := kp_refl
  refine pg_253_0 (d := d + 3) ?_
  have hO : OutB (ps_a s 1134) (ps_a s 1134) x1.toInt := OutB_refl
  have h34_k : (ps_i s 1131 34).toInt = 0 := hM.1
  refine pg_244_0 ?_
  refine ps_nd_i (show pm_in x1 40 = true from xgi (show 0 ≤ x1.toInt from by omega) (show x1.toInt < 40 from by omega)) ?_
  have r3_k : -1 ≤ (ps_a s 1153 (Int32.toNatClampNeg x1)).toInt ∧ (ps_a s 1153 (Int32.toNatClampNeg x1)).toInt ≤ 9999 := ma_1153 (i := x1) J (show 0 ≤ x1.toInt from by omega) (show x1.toInt < 40 from by omega)
  refine pg_242_0 ?_
  have a4_k : ((41 : Int32) * (ps_a s 1153 (Int32.toNatClampNeg x1))).toInt = (41 : Int) * (ps_a s 1153 (Int32.toNatClampNeg x1)).toInt := xIm (show -2147483648 ≤ (41 : Int) * (ps_a s 1153 (Int32.toNatClampNeg x1)).toInt from by omega) (show (41 : Int) * (ps_a s 1153 (Int32.toNatClampNeg x1)).toInt < 2147483648 from by omega)
  have a5_k : ((0 : Int32) + ((41 : Int32) * (ps_a s 1153 (Int32.toNatClampNeg x1)))).toInt = (0 : Int) + ((41 : Int32) * (ps_a s 1153 (Int32.toNatClampNeg x1))).toInt := xIa (show -2147483648 ≤ (0 : Int) + ((41 : Int32) * (ps_a s 1153 (Int32.toNatClampNeg x1))).toInt from by omega) (show (0 : Int) + ((41 : Int32) * (ps_a s 1153 (Int32.toNatClampNeg x1))).toInt < 2147483648 from by omega)
  refine ps_nd_i (show pm_in x1 40 = true from xgi (show 0 ≤ x1.toInt from by omega) (show x1.toInt < 40 from by omega)) ?_
  refine And.intro (fun h6_k => ?_) (fun h6_k => ?_)
  · have f7_k : (ps_a s 1152 (Int32.toNatClampNeg x1)).toInt = (0 : Int) := xeq h6_k
    have a8_k : ((41 : Int32) * x1).toInt = (41 : Int) * x1.toInt := xIm (show -2147483648 ≤ (41 : Int) * x1.toInt from by omega) (show (41 : Int) * x1.toInt < 2147483648 from by omega)
    have a9_k : ((22468 : Int32) + ((41 : Int32) * x1)).toInt = (22468 : Int) + ((41 : Int32) * x1).toInt := xIa (show -2147483648 ≤ (22468 : Int) + ((41 : Int32) * x1).toInt from by omega) (show (22468 : Int) + ((41 : Int32) * x1).toInt < 2147483648 from by omega)
    have hF0 := SC_f (j := ((22468 : Int32) + ((41 : Int32) * x1))) hC rfl (by omega) (by omega)
    obtain ⟨l, hl1, hl2⟩ := id hF0
    have hlen := hl1.2.2.2.1
    refine ms_227 J (hl1) (hM) ((by simp only [List.length_append, List.length_cons, List.length_nil]; omega)) (fun s10 J10 K10 p10_0 => ?_)
    have K11 := kpt K K10 rfl rfl
    have KC := K10
    have hS : Sg (ps_a s10 1135) (ps_a s10 1136) (ps_a s10 1138) (ps_a s10 1139) (ps_i s10 1131 21).toInt σ := by rw [show ps_a s10 1135 = ps_a s 1135 from (K10.2 1135 rfl).1, show ps_a s10 1136 = ps_a s 1136 from (K10.2 1136 rfl).1, show ps_a s10 1138 = ps_a s 1138 from (K10.2 1138 rfl).1, show ps_a s10 1139 = ps_a s 1139 from (K10.2 1139 rfl).1, show ps_i s10 1131 21 = ps_i s 1131 21 from kp_i K10 21 rfl]; exact hS
    have hC : SC σ (ps_a s10 1134) (ps_a s10 1157) (ps_a s10 1152) (ps_a s10 1153) (ps_a s10 1154) (ps_a s10 1155) (ps_i s10 1131 21).toInt x1.toInt := by rw [show ps_a s10 1134 = ps_a s 1134 from (K10.2 1134 rfl).1, show ps_a s10 1157 = ps_a s 1157 from (K10.2 1157 rfl).1, show ps_a s10 1152 = ps_a s 1152 from (K10.2 1152 rfl).1, show ps_a s10 1153 = ps_a s 1153 from (K10.2 1153 rfl).1, show ps_a s10 1154 = ps_a s 1154 from (K10.2 1154 rfl).1, show ps_a s10 1155 = ps_a s 1155 from (K10.2 1155 rfl).1, show ps_i s10 1131 21 = ps_i s 1131 21 from kp_i K10 21 rfl]; exact hC
    have hA : As σ (ps_a s10 1134) x1.toInt (ps_i s10 1131 51).toInt := by rw [show ps_a s10 1134 = ps_a s 1134 from (K10.2 1134 rfl).1, show ps_i s10 1131 51 = ps_i s 1131 51 from kp_i K10 51 rfl]; exact hA
    have hO : OutB (ps_a s 1134) (ps_a s10 1134) x1.toInt := by rw [show ps_a s10 1134 = ps_a s 1134 from (K10.2 1134 rfl).1]; exact hO
    have hF0 : Fm σ (ps_a s10 1134) (((22468 : Int32) + ((41 : Int32) * x1)).toInt) := by rw [show ps_a s10 1134 = ps_a s 1134 from (K10.2 1134 rfl).1]; exact hF0
    have hM1 : Md (ps_a s10 1149) (ps_i s10 1131 34).toInt ([] ++ l) := p10_0
    have r12_k := mf_51 J10
    have u13 : (ps_i s10 1131 51).toInt = (ps_i s 1131 51).toInt := xeq (kp_i K10 51 rfl)
    refine ms_248 J10 hA (hF0) (show 0 ≤ x1.toInt from by omega) (show x1.toInt < 40 from by omega) (show ((22468 : Int32) + ((41 : Int32) * x1)).toInt + 41 ≤ 1640 + 492 * x1.toInt ∨ 1640 + 492 * x1.toInt + 492 ≤ ((22468 : Int32) + ((41 : Int32) * x1)).toInt from by omega) (show (ps_i s10 1131 51).toInt ≤ 900 from by omega) (fun s14 J14 K14 p14_0 p14_1 p14_2 p14_3 => ?_)
    have K15 := kpt K11 K14 rfl rfl
    have KC := K14
    have hS : Sg (ps_a s14 1135) (ps_a s14 1136) (ps_a s14 1138) (ps_a s14 1139) (ps_i s14 1131 21).toInt σ := by rw [show ps_a s14 1135 = ps_a s10 1135 from (K14.2 1135 rfl).1, show ps_a s14 1136 = ps_a s10 1136 from (K14.2 1136 rfl).1, show ps_a s14 1138 = ps_a s10 1138 from (K14.2 1138 rfl).1, show ps_a s14 1139 = ps_a s10 1139 from (K14.2 1139 rfl).1, show ps_i s14 1131 21 = ps_i s10 1131 21 from kp_i K14 21 rfl]; exact hS
    have hM1 : Md (ps_a s14 1149) (ps_i s14 1131 34).toInt ([] ++ l) := by rw [show ps_a s14 1149 = ps_a s10 1149 from (K14.2 1149 rfl).1, show ps_i s14 1131 34 = ps_i s10 1131 34 from kp_i K14 34 rfl]; exact hM1
    have p14_2' : (ps_i s10 1131 51).toInt ≤ (ps_i s14 1131 51).toInt := p14_2
    have r16_k := mf_51 J14
    have p14_3' : (ps_i s14 1131 51).toInt ≤ (ps_i s10 1131 51).toInt + 1 := p14_3
    have hA : As σ (ps_a s14 1134) x1.toInt (ps_i s14 1131 51).toInt := p14_0
    have ho : _ := p14_1
    have hO := OutB_tr hO ho
    exact k _ J14 K15 hA (hO) (show (ps_i s 1131 51).toInt ≤ (ps_i s14 1131 51).toInt from by omega) (show (ps_i s14 1131 51).toInt ≤ (ps_i s 1131 51).toInt + 24 from by omega) (⟨_, hM1, by simp only [List.length_append, List.length_cons, List.length_nil]; omega, Or.inl (wf_ws hl2)⟩)
  have f17_k : (ps_a s 1152 (Int32.toNatClampNeg x1)).toInt ≠ (0 : Int) := xne h6_k
  refine And.intro (fun h18_k => ?_) (fun h18_k => ?_)
  · have f19_k : (ps_a s 1152 (Int32.toNatClampNeg x1)).toInt = (1 : Int) := xeq h18_k
    have r20_k := mf_21 J
    have a21_k : ((8 : Int32) * (ps_i s 1131 21)).toInt = (8 : Int) * (ps_i s 1131 21).toInt := xIm (show -2147483648 ≤ (8 : Int) * (ps_i s 1131 21).toInt from by omega) (show (8 : Int) * (ps_i s 1131 21).toInt < 2147483648 from by omega)
    refine ps_nd_i (show pm_in x1 40 = true from xgi (show 0 ≤ x1.toInt from by omega) (show x1.toInt < 40 from by omega)) ?_
    have a22_k : (((8 : Int32) * (ps_i s 1131 21)) + (ps_a s 1153 (Int32.toNatClampNeg x1))).toInt = ((8 : Int32) * (ps_i s 1131 21)).toInt + (ps_a s 1153 (Int32.toNatClampNeg x1)).toInt := xIa (show -2147483648 ≤ ((8 : Int32) * (ps_i s 1131 21)).toInt + (ps_a s 1153 (Int32.toNatClampNeg x1)).toInt from by omega) (show ((8 : Int32) * (ps_i s 1131 21)).toInt + (ps_a s 1153 (Int32.toNatClampNeg x1)).toInt < 2147483648 from by omega)
    have a23_k : ((41 : Int32) * (((8 : Int32) * (ps_i s 1131 21)) + (ps_a s 1153 (Int32.toNatClampNeg x1)))).toInt = (41 : Int) * (((8 : Int32) * (ps_i s 1131 21)) + (ps_a s 1153 (Int32.toNatClampNeg x1))).toInt := xIm (show -2147483648 ≤ (41 : Int) * (((8 : Int32) * (ps_i s 1131 21)) + (ps_a s 1153 (Int32.toNatClampNeg x1))).toInt from by omega) (show (41 : Int) * (((8 : Int32) * (ps_i s 1131 21)) + (ps_a s 1153 (Int32.toNatClampNeg x1))).toInt < 2147483648 from by omega)
    have a24_k : ((21812 : Int32) + ((41 : Int32) * (((8 : Int32) * (ps_i s 1131 21)) + (ps_a s 1153 (Int32.toNatClampNeg x1))))).toInt = (21812 : Int) + ((41 : Int32) * (((8 : Int32) * (ps_i s 1131 21)) + (ps_a s 1153 (Int32.toNatClampNeg x1)))).toInt := xIa (show -2147483648 ≤ (21812 : Int) + ((41 : Int32) * (((8 : Int32) * (ps_i s 1131 21)) + (ps_a s 1153 (Int32.toNatClampNeg x1)))).toInt from by omega) (show (21812 : Int) + ((41 : Int32) * (((8 : Int32) * (ps_i s 1131 21)) + (ps_a s 1153 (Int32.toNatClampNeg x1)))).toInt < 2147483648 from by omega)
    obtain ⟨l, hl1, hl2⟩ := SC_ax (j := ((21812 : Int32) + ((41 : Int32) * (((8 : Int32) * (ps_i s 1131 21)) + (ps_a s 1153 (Int32.toNatClampNeg x1)))))) hC rfl (by omega) (by omega)
    have hlen := hl1.2.2.2.1
    refine ms_227 J (hl1) (hM) ((by simp only [List.length_append, List.length_cons, List.length_nil]; omega)) (fun s25 J25 K25 p25_0 => ?_)
    have K26 := kpt K K25 rfl rfl
    have KC := K25
    have hS : Sg (ps_a s25 1135) (ps_a s25 1136) (ps_a s25 1138) (ps_a s25 1139) (ps_i s25 1131 21).toInt σ := by rw [show ps_a s25 1135 = ps_a s 1135 from (K25.2 1135 rfl).1, show ps_a s25 1136 = ps_a s 1136 from (K25.2 1136 rfl).1, show ps_a s25 1138 = ps_a s 1138 from (K25.2 1138 rfl).1, show ps_a s25 1139 = ps_a s 1139 from (K25.2 1139 rfl).1, show ps_i s25 1131 21 = ps_i s 1131 21 from kp_i K25 21 rfl]; exact hS
    have hC : SC σ (ps_a s25 1134) (ps_a s25 1157) (ps_a s25 1152) (ps_a s25 1153) (ps_a s25 1154) (ps_a s25 1155) (ps_i s25 1131 21).toInt x1.toInt := by rw [show ps_a s25 1134 = ps_a s 1134 from (K25.2 1134 rfl).1, show ps_a s25 1157 = ps_a s 1157 from (K25.2 1157 rfl).1, show ps_a s25 1152 = ps_a s 1152 from (K25.2 1152 rfl).1, show ps_a s25 1153 = ps_a s 1153 from (K25.2 1153 rfl).1, show ps_a s25 1154 = ps_a s 1154 from (K25.2 1154 rfl).1, show ps_a s25 1155 = ps_a s 1155 from (K25.2 1155 rfl).1, show ps_i s25 1131 21 = ps_i s 1131 21 from kp_i K25 21 rfl]; exact hC
    have hA : As σ (ps_a s25 1134) x1.toInt (ps_i s25 1131 51).toInt := by rw [show ps_a s25 1134 = ps_a s 1134 from (K25.2 1134 rfl).1, show ps_i s25 1131 51 = ps_i s 1131 51 from kp_i K25 51 rfl]; exact hA
    have hO : OutB (ps_a s 1134) (ps_a s25 1134) x1.toInt := by rw [show ps_a s25 1134 = ps_a s 1134 from (K25.2 1134 rfl).1]; exact hO
    have hM1 : Md (ps_a s25 1149) (ps_i s25 1131 34).toInt ([] ++ l) := p25_0
    have r27_k := mf_51 J25
    have u28 : (ps_i s25 1131 51).toInt = (ps_i s 1131 51).toInt := xeq (kp_i K25 51 rfl)
    exact k _ J25 K26 hA hO (show (ps_i s 1131 51).toInt ≤ (ps_i s25 1131 51).toInt from by omega) (show (ps_i s25 1131 51).toInt ≤ (ps_i s 1131 51).toInt + 24 from by omega) (⟨_, hM1, by simp only [List.length_append, List.length_cons, List.length_nil]; omega, Or.inl (wf_ws hl2)⟩)
  have f29_k : (ps_a s 1152 (Int32.toNatClampNeg x1)).toInt ≠ (1 : Int) := xne h18_k
  refine And.intro (fun h30_k => ?_) (fun h30_k => ?_)
  · have f31_k : (ps_a s 1152 (Int32.toNatClampNeg x1)).toInt = (2 : Int) := xeq h30_k
    refine ps_nd_i (show pm_in x1 40 = true from xgi (show 0 ≤ x1.toInt from by omega) (show x1.toInt < 40 from by omega)) ?_
    have a32_k : ((21320 : Int32) + ((41 : Int32) * (ps_a s 1153 (Int32.toNatClampNeg x1)))).toInt = (21320 : Int) + ((41 : Int32) * (ps_a s 1153 (Int32.toNatClampNeg x1))).toInt := xIa (show -2147483648 ≤ (21320 : Int) + ((41 : Int32) * (ps_a s 1153 (Int32.toNatClampNeg x1))).toInt from by omega) (show (21320 : Int) + ((41 : Int32) * (ps_a s 1153 (Int32.toNatClampNeg x1))).toInt < 2147483648 from by omega)
    obtain ⟨l, hl1, hl2⟩ := SC_th (j := ((21320 : Int32) + ((41 : Int32) * (ps_a s 1153 (Int32.toNatClampNeg x1))))) hC rfl (by omega) (by omega)
    have hlen := hl1.2.2.2.1
    refine ms_227 J (hl1) (hM) ((by simp only [List.length_append, List.length_cons, List.length_nil]; omega)) (fun s33 J33 K33 p33_0 => ?_)
    have K34 := kpt K K33 rfl rfl
    have KC := K33
    have hS : Sg (ps_a s33 1135) (ps_a s33 1136) (ps_a s33 1138) (ps_a s33 1139) (ps_i s33 1131 21).toInt σ := by rw [show ps_a s33 1135 = ps_a s 1135 from (K33.2 1135 rfl).1, show ps_a s33 1136 = ps_a s 1136 from (K33.2 1136 rfl).1, show ps_a s33 1138 = ps_a s 1138 from (K33.2 1138 rfl).1, show ps_a s33 1139 = ps_a s 1139 from (K33.2 1139 rfl).1, show ps_i s33 1131 21 = ps_i s 1131 21 from kp_i K33 21 rfl]; exact hS
    have hC : SC σ (ps_a s33 1134) (ps_a s33 1157) (ps_a s33 1152) (ps_a s33 1153) (ps_a s33 1154) (ps_a s33 1155) (ps_i s33 1131 21).toInt x1.toInt := by rw [show ps_a s33 1134 = ps_a s 1134 from (K33.2 1134 rfl).1, show ps_a s33 1157 = ps_a s 1157 from (K33.2 1157 rfl).1, show ps_a s33 1152 = ps_a s 1152 from (K33.2 1152 rfl).1, show ps_a s33 1153 = ps_a s 1153 from (K33.2 1153 rfl).1, show ps_a s33 1154 = ps_a s 1154 from (K33.2 1154 rfl).1, show ps_a s33 1155 = ps_a s 1155 from (K33.2 1155 rfl).1, show ps_i s33 1131 21 = ps_i s 1131 21 from kp_i K33 21 rfl]; exact hC
    have hA : As σ (ps_a s33 1134) x1.toInt (ps_i s33 1131 51).toInt := by rw [show ps_a s33 1134 = ps_a s 1134 from (K33.2 1134 rfl).1, show ps_i s33 1131 51 = ps_i s 1131 51 from kp_i K33 51 rfl]; exact hA
    have hO : OutB (ps_a s 1134) (ps_a s33 1134) x1.toInt := by rw [show ps_a s33 1134 = ps_a s 1134 from (K33.2 1134 rfl).1]; exact hO
    have hM1 : Md (ps_a s33 1149) (ps_i s33 1131 34).toInt ([] ++ l) := p33_0
    have r35_k := mf_51 J33
    have u36 : (ps_i s33 1131 51).toInt = (ps_i s 1131 51).toInt := xeq (kp_i K33 51 rfl)
    exact k _ J33 K34 hA hO (show (ps_i s 1131 51).toInt ≤ (ps_i s33 1131 51).toInt from by omega) (show (ps_i s33 1131 51).toInt ≤ (ps_i s 1131 51).toInt + 24 from by omega) (⟨_, hM1, by simp only [List.length_append, List.length_cons, List.length_nil]; omega, Or.inl (wf_ws hl2)⟩)
  have f37_k : (ps_a s 1152 (Int32.toNatClampNeg x1)).toInt ≠ (2 : Int) := xne h30_k
  refine And.intro (fun h38_k => ?_) (fun h38_k => ?_)
  · have f39_k : (ps_a s 1152 (Int32.toNatClampNeg x1)).toInt = (3 : Int) := xeq h38_k
    refine pg_225_0 ?_
    have r40_k := mf_34 J
    refine And.intro (fun h41_k => ?_) (fun h41_k => ?_)
    · have f42_k : (260 : Int) ≤ (ps_i s 1131 34).toInt := xle h41_k
      have a43_k : ((ps_i s 1131 34) + 1).toInt = (ps_i s 1131 34).toInt + (1 : Int) := xIa (show -2147483648 ≤ (ps_i s 1131 34).toInt + (1 : Int) from by omega) (show (ps_i s 1131 34).toInt + (1 : Int) < 2147483648 from by omega)
      have J44 := mwi_34 (v := ((ps_i s 1131 34) + 1)) J (show 0 ≤ ((ps_i s 1131 34) + 1).toInt from by omega) (show ((ps_i s 1131 34) + 1).toInt ≤ 100000 from by omega)
      have K45 := kpi K (q := 34) (v := ((ps_i s 1131 34) + 1)) rfl
      have hM1 : Md (ps_a (ps_ui s 1131 34 ((ps_i s 1131 34) + 1)) 1149) (ps_i (ps_ui s 1131 34 ((ps_i s 1131 34) + 1)) 1131 34).toInt ([] ++ [1]) := by first | exact Md_make hM rfl (by decide) | exact Md_make' hM (by decide) (by omega)
      have hB := SC_2i hC rfl (by omega)
      obtain ⟨l, hl1, hl2⟩ := SC_1i hC rfl (by omega)
      have hlen := hl1.2.2.2.1
      refine ms_227 J44 ((by rw [show (((0 : Int32) + ((41 : Int32) * (ps_a s 1153 (Int32.toNatClampNeg x1))))).toInt = 41 * (ps_a s 1153 (Int32.toNatClampNeg x1)).toInt from by omega]; exact hl1)) (hM1) ((by simp only [List.length_append, List.length_cons, List.length_nil]; omega)) (fun s46 J46 K46 p46_0 => ?_)
      have K47 := kpt K45 K46 rfl rfl
      have KC := K46
      have hS : Sg (ps_a s46 1135) (ps_a s46 1136) (ps_a s46 1138) (ps_a s46 1139) (ps_i s46 1131 21).toInt σ := by rw [show ps_a s46 1135 = ps_a (ps_ui s 1131 34 ((ps_i s 1131 34) + 1)) 1135 from (K46.2 1135 rfl).1, show ps_a s46 1136 = ps_a (ps_ui s 1131 34 ((ps_i s 1131 34) + 1)) 1136 from (K46.2 1136 rfl).1, show ps_a s46 1138 = ps_a (ps_ui s 1131 34 ((ps_i s 1131 34) + 1)) 1138 from (K46.2 1138 rfl).1, show ps_a s46 1139 = ps_a (ps_ui s 1131 34 ((ps_i s 1131 34) + 1)) 1139 from (K46.2 1139 rfl).1, show ps_i s46 1131 21 = ps_i (ps_ui s 1131 34 ((ps_i s 1131 34) + 1)) 1131 21 from kp_i K46 21 rfl]; exact hS
      have hC : SC σ (ps_a s46 1134) (ps_a s46 1157) (ps_a s46 1152) (ps_a s46 1153) (ps_a s46 1154) (ps_a s46 1155) (ps_i s46 1131 21).toInt x1.toInt := by rw [show ps_a s46 1134 = ps_a (ps_ui s 1131 34 ((ps_i s 1131 34) + 1)) 1134 from (K46.2 1134 rfl).1, show ps_a s46 1157 = ps_a (ps_ui s 1131 34 ((ps_i s 1131 34) + 1)) 1157 from (K46.2 1157 rfl).1, show ps_a s46 1152 = ps_a (ps_ui s 1131 34 ((ps_i s 1131 34) + 1)) 1152 from (K46.2 1152 rfl).1, show ps_a s46 1153 = ps_a (ps_ui s 1131 34 ((ps_i s 1131 34) + 1)) 1153 from (K46.2 1153 rfl).1, show ps_a s46 1154 = ps_a (ps_ui s 1131 34 ((ps_i s 1131 34) + 1)) 1154 from (K46.2 1154 rfl).1, show ps_a s46 1155 = ps_a (ps_ui s 1131 34 ((ps_i s 1131 34) + 1)) 1155 from (K46.2 1155 rfl).1, show ps_i s46 1131 21 = ps_i (ps_ui s 1131 34 ((ps_i s 1131 34) + 1)) 1131 21 from kp_i K46 21 rfl]; exact hC
      have hA : As σ (ps_a s46 1134) x1.toInt (ps_i s46 1131 51).toInt := by rw [show ps_a s46 1134 = ps_a (ps_ui s 1131 34 ((ps_i s 1131 34) + 1)) 1134 from (K46.2 1134 rfl).1, show ps_i s46 1131 51 = ps_i (ps_ui s 1131 34 ((ps_i s 1131 34) + 1)) 1131 51 from kp_i K46 51 rfl]; exact hA
      have hO : OutB (ps_a s 1134) (ps_a s46 1134) x1.toInt := by rw [show ps_a s46 1134 = ps_a (ps_ui s 1131 34 ((ps_i s 1131 34) + 1)) 1134 from (K46.2 1134 rfl).1]; exact hO
      have hB : Fm σ (ps_a s46 1134) (41 * (ps_a s 1154 (Int32.toNatClampNeg x1)).toInt) := by rw [show ps_a s46 1134 = ps_a (ps_ui s 1131 34 ((ps_i s 1131 34) + 1)) 1134 from (K46.2 1134 rfl).1]; exact hB
      have hM2 : Md (ps_a s46 1149) (ps_i s46 1131 34).toInt (([] ++ [1]) ++ l) := p46_0
      refine pg_245_0 ?_
      refine ps_nd_i (show pm_in x1 40 = true from xgi (show 0 ≤ x1.toInt from by omega) (show x1.toInt < 40 from by omega)) ?_
      have r48_k : 0 ≤ (ps_a s46 1154 (Int32.toNatClampNeg x1)).toInt ∧ (ps_a s46 1154 (Int32.toNatClampNeg x1)).toInt ≤ 9999 := ma_1154 (i := x1) J46 (show 0 ≤ x1.toInt from by omega) (show x1.toInt < 40 from by omega)
      have u49 : (ps_a s46 1154 (Int32.toNatClampNeg x1)).toInt = (ps_a s 1154 (Int32.toNatClampNeg x1)).toInt := xeq (kp_a K46 1154 rfl _)
      have r50_k : 0 ≤ (ps_a s 1154 (Int32.toNatClampNeg x1)).toInt ∧ (ps_a s 1154 (Int32.toNatClampNeg x1)).toInt ≤ 9999 := ma_1154 (i := x1) J (show 0 ≤ x1.toInt from by omega) (show x1.toInt < 40 from by omega)
      refine pg_242_0 ?_
      have a51_k : ((41 : Int32) * (ps_a s46 1154 (Int32.toNatClampNeg x1))).toInt = (41 : Int) * (ps_a s46 1154 (Int32.toNatClampNeg x1)).toInt := xIm (show -2147483648 ≤ (41 : Int) * (ps_a s46 1154 (Int32.toNatClampNeg x1)).toInt from by omega) (show (41 : Int) * (ps_a s46 1154 (Int32.toNatClampNeg x1)).toInt < 2147483648 from by omega)
      have a52_k : ((0 : Int32) + ((41 : Int32) * (ps_a s46 1154 (Int32.toNatClampNeg x1)))).toInt = (0 : Int) + ((41 : Int32) * (ps_a s46 1154 (Int32.toNatClampNeg x1))).toInt := xIa (show -2147483648 ≤ (0 : Int) + ((41 : Int32) * (ps_a s46 1154 (Int32.toNatClampNeg x1))).toInt from by omega) (show (0 : Int) + ((41 : Int32) * (ps_a s46 1154 (Int32.toNatClampNeg x1))).toInt < 2147483648 from by omega)
      obtain ⟨l2, hl3, hl4⟩ := id hB
      have hlen2 := hl3.2.2.2.1
      refine ms_227 J46 ((by rw [show (((0 : Int32) + ((41 : Int32) * (ps_a s46 1154 (Int32.toNatClampNeg x1))))).toInt = 41 * (ps_a s 1154 (Int32.toNatClampNeg x1)).toInt from by omega]; exact hl3)) (hM2) ((by simp only [List.length_append, List.length_cons, List.length_nil]; omega)) (fun s53 J53 K53 p53_0 => ?_)
      have K54 := kpt K47 K53 rfl rfl
      have KC := K53
      have hS : Sg (ps_a s53 1135) (ps_a s53 1136) (ps_a s53 1138) (ps_a s53 1139) (ps_i s53 1131 21).toInt σ := by rw [show ps_a s53 1135 = ps_a s46 1135 from (K53.2 1135 rfl).1, show ps_a s53 1136 = ps_a s46 1136 from (K53.2 1136 rfl).1, show ps_a s53 1138 = ps_a s46 1138 from (K53.2 1138 rfl).1, show ps_a s53 1139 = ps_a s46 1139 from (K53.2 1139 rfl).1, show ps_i s53 1131 21 = ps_i s46 1131 21 from kp_i K53 21 rfl]; exact hS
      have hC : SC σ (ps_a s53 1134) (ps_a s53 1157) (ps_a s53 1152) (ps_a s53 1153) (ps_a s53 1154) (ps_a s53 1155) (ps_i s53 1131 21).toInt x1.toInt := by rw [show ps_a s53 1134 = ps_a s46 1134 from (K53.2 1134 rfl).1, show ps_a s53 1157 = ps_a s46 1157 from (K53.2 1157 rfl).1, show ps_a s53 1152 = ps_a s46 1152 from (K53.2 1152 rfl).1, show ps_a s53 1153 = ps_a s46 1153 from (K53.2 1153 rfl).1, show ps_a s53 1154 = ps_a s46 1154 from (K53.2 1154 rfl).1, show ps_a s53 1155 = ps_a s46 1155 from (K53.2 1155 rfl).1, show ps_i s53 1131 21 = ps_i s46 1131 21 from kp_i K53 21 rfl]; exact hC
      have hA : As σ (ps_a s53 1134) x1.toInt (ps_i s53 1131 51).toInt := by rw [show ps_a s53 1134 = ps_a s46 1134 from (K53.2 1134 rfl).1, show ps_i s53 1131 51 = ps_i s46 1131 51 from kp_i K53 51 rfl]; exact hA
      have hO : OutB (ps_a s 1134) (ps_a s53 1134) x1.toInt := by rw [show ps_a s53 1134 = ps_a s46 1134 from (K53.2 1134 rfl).1]; exact hO
      have hB : Fm σ (ps_a s53 1134) (41 * (ps_a s 1154 (Int32.toNatClampNeg x1)).toInt) := by rw [show ps_a s53 1134 = ps_a s46 1134 from (K53.2 1134 rfl).1]; exact hB
      have hM3 : Md (ps_a s53 1149) (ps_i s53 1131 34).toInt ((([] ++ [1]) ++ l) ++ l2) := p53_0
      have r55_k := mf_51 J53
      have u56 : (ps_i s53 1131 51).toInt = (ps_i s46 1131 51).toInt := xeq (kp_i K53 51 rfl)
      have r57_k := mf_51 J46
      have u58 : (ps_i s46 1131 51).toInt = (ps_i s 1131 51).toInt := xeq (kp_i K46 51 rfl)
      have r59_k : 0 ≤ (ps_a s53 1152 (Int32.toNatClampNeg x1)).toInt ∧ (ps_a s53 1152 (Int32.toNatClampNeg x1)).toInt ≤ 18 := ma_1152 (i := x1) J53 (show 0 ≤ x1.toInt from by omega) (show x1.toInt < 40 from by omega)
      have u60 : (ps_a s53 1152 (Int32.toNatClampNeg x1)).toInt = (ps_a s46 1152 (Int32.toNatClampNeg x1)).toInt := xeq (kp_a K53 1152 rfl _)
      have r61_k : 0 ≤ (ps_a s46 1152 (Int32.toNatClampNeg x1)).toInt ∧ (ps_a s46 1152 (Int32.toNatClampNeg x1)).toInt ≤ 18 := ma_1152 (i := x1) J46 (show 0 ≤ x1.toInt from by omega) (show x1.toInt < 40 from by omega)
      have u62 : (ps_a s46 1152 (Int32.toNatClampNeg x1)).toInt = (ps_a s 1152 (Int32.toNatClampNeg x1)).toInt := xeq (kp_a K46 1152 rfl _)
      exact ms_253_202 (x1 := x1) (σ := σ) k   _ J53 K54 hS hC hA hO (show 0 ≤ x1.toInt from by omega) (show x1.toInt < 40 from by omega) (show (ps_i s 1131 51).toInt ≤ 100 from by omega) (show (ps_i s53 1131 51).toInt = (ps_i s 1131 51).toInt from by omega) (show 3 ≤ (ps_a s53 1152 (Int32.toNatClampNeg x1)).toInt from by omega) (show (ps_a s53 1152 (Int32.toNatClampNeg x1)).toInt < 8 from by omega) (⟨_, hM3, by simp only [List.length_append, List.length_cons, List.length_nil]; omega, Or.inl (show ws σ (1 :: (l ++ l2)) [true] from ws_c (W' := []) (kS_f2 (by decide) (by decide)) (ws_app (W1 := [true]) (W2 := [true]) (wf_ws hl2) (wf_ws hl4)))⟩)
    · have f63_k : (ps_i s 1131 34).toInt < (260 : Int) := xlt h41_k
      refine ps_nd_i (show pm_in (ps_i s 1131 34) 260 = true from xgi (show 0 ≤ (ps_i s 1131 34).toInt from by omega) (show (ps_i s 1131 34).toInt < 260 from by omega)) ?_
      have J64 := mwa_n 1149 (i := (Int32.toNatClampNeg (ps_i s 1131 34))) (v := (1 : Int32)) J rfl (by decide)
      have K65 := kpa' K (r := 1149) (i := (Int32.toNatClampNeg (ps_i s 1131 34))) (v := (1 : Int32)) rfl
      have a66_k : ((ps_i s 1131 34) + 1).toInt = (ps_i s 1131 34).toInt + (1 : Int) := xIa (show -2147483648 ≤ (ps_i s 1131 34).toInt + (1 : Int) from by omega) (show (ps_i s 1131 34).toInt + (1 : Int) < 2147483648 from by omega)
      have J67 := mwi_34 (v := ((ps_i s 1131 34) + 1)) J64 (show 0 ≤ ((ps_i s 1131 34) + 1).toInt from by omega) (show ((ps_i s 1131 34) + 1).toInt ≤ 100000 from by omega)
      have K68 := kpi K65 (q := 34) (v := ((ps_i s 1131 34) + 1)) rfl
      have hM1 : Md (ps_a (ps_ui (ps_ua s 1149 (Int32.toNatClampNeg (ps_i s 1131 34)) 1) 1131 34 ((ps_i s 1131 34) + 1)) 1149) (ps_i (ps_ui (ps_ua s 1149 (Int32.toNatClampNeg (ps_i s 1131 34)) 1) 1131 34 ((ps_i s 1131 34) + 1)) 1131 34).toInt ([] ++ [1]) := by first | exact Md_make hM rfl (by decide) | exact Md_make' hM (by decide) (by omega)
      have hB := SC_2i hC rfl (by omega)
      obtain ⟨l, hl1, hl2⟩ := SC_1i hC rfl (by omega)
      have hlen := hl1.2.2.2.1
      refine ms_227 J67 ((by rw [show (((0 : Int32) + ((41 : Int32) * (ps_a s 1153 (Int32.toNatClampNeg x1))))).toInt = 41 * (ps_a s 1153 (Int32.toNatClampNeg x1)).toInt from by omega]; exact hl1)) (hM1) ((by simp only [List.length_append, List.length_cons, List.length_nil]; omega)) (fun s69 J69 K69 p69_0 => ?_)
      have K70 := kpt K68 K69 rfl rfl
      have KC := K69
      have hS : Sg (ps_a s69 1135) (ps_a s69 1136) (ps_a s69 1138) (ps_a s69 1139) (ps_i s69 1131 21).toInt σ := by rw [show ps_a s69 1135 = ps_a (ps_ui (ps_ua s 1149 (Int32.toNatClampNeg (ps_i s 1131 34)) 1) 1131 34 ((ps_i s 1131 34) + 1)) 1135 from (K69.2 1135 rfl).1, show ps_a s69 1136 = ps_a (ps_ui (ps_ua s 1149 (Int32.toNatClampNeg (ps_i s 1131 34)) 1) 1131 34 ((ps_i s 1131 34) + 1)) 1136 from (K69.2 1136 rfl).1, show ps_a s69 1138 = ps_a (ps_ui (ps_ua s 1149 (Int32.toNatClampNeg (ps_i s 1131 34)) 1) 1131 34 ((ps_i s 1131 34) + 1)) 1138 from (K69.2 1138 rfl).1, show ps_a s69 1139 = ps_a (ps_ui (ps_ua s 1149 (Int32.toNatClampNeg (ps_i s 1131 34)) 1) 1131 34 ((ps_i s 1131 34) + 1)) 1139 from (K69.2 1139 rfl).1, show ps_i s69 1131 21 = ps_i (ps_ui (ps_ua s 1149 (Int32.toNatClampNeg (ps_i s 1131 34)) 1) 1131 34 ((ps_i s 1131 34) + 1)) 1131 21 from kp_i K69 21 rfl]; exact hS
      have hC : SC σ (ps_a s69 1134) (ps_a s69 1157) (ps_a s69 1152) (ps_a s69 1153) (ps_a s69 1154) (ps_a s69 1155) (ps_i s69 1131 21).toInt x1.toInt := by rw [show ps_a s69 1134 = ps_a (ps_ui (ps_ua s 1149 (Int32.toNatClampNeg (ps_i s 1131 34)) 1) 1131 34 ((ps_i s 1131 34) + 1)) 1134 from (K69.2 1134 rfl).1, show ps_a s69 1157 = ps_a (ps_ui (ps_ua s 1149 (Int32.toNatClampNeg (ps_i s 1131 34)) 1) 1131 34 ((ps_i s 1131 34) + 1)) 1157 from (K69.2 1157 rfl).1, show ps_a s69 1152 = ps_a (ps_ui (ps_ua s 1149 (Int32.toNatClampNeg (ps_i s 1131 34)) 1) 1131 34 ((ps_i s 1131 34) + 1)) 1152 from (K69.2 1152 rfl).1, show ps_a s69 1153 = ps_a (ps_ui (ps_ua s 1149 (Int32.toNatClampNeg (ps_i s 1131 34)) 1) 1131 34 ((ps_i s 1131 34) + 1)) 1153 from (K69.2 1153 rfl).1, show ps_a s69 1154 = ps_a (ps_ui (ps_ua s 1149 (Int32.toNatClampNeg (ps_i s 1131 34)) 1) 1131 34 ((ps_i s 1131 34) + 1)) 1154 from (K69.2 1154 rfl).1, show ps_a s69 1155 = ps_a (ps_ui (ps_ua s 1149 (Int32.toNatClampNeg (ps_i s 1131 34)) 1) 1131 34 ((ps_i s 1131 34) + 1)) 1155 from (K69.2 1155 rfl).1, show ps_i s69 1131 21 = ps_i (ps_ui (ps_ua s 1149 (Int32.toNatClampNeg (ps_i s 1131 34)) 1) 1131 34 ((ps_i s 1131 34) + 1)) 1131 21 from kp_i K69 21 rfl]; exact hC
      have hA : As σ (ps_a s69 1134) x1.toInt (ps_i s69 1131 51).toInt := by rw [show ps_a s69 1134 = ps_a (ps_ui (ps_ua s 1149 (Int32.toNatClampNeg (ps_i s 1131 34)) 1) 1131 34 ((ps_i s 1131 34) + 1)) 1134 from (K69.2 1134 rfl).1, show ps_i s69 1131 51 = ps_i (ps_ui (ps_ua s 1149 (Int32.toNatClampNeg (ps_i s 1131 34)) 1) 1131 34 ((ps_i s 1131 34) + 1)) 1131 51 from kp_i K69 51 rfl]; exact hA
      have hO : OutB (ps_a s 1134) (ps_a s69 1134) x1.toInt := by rw [show ps_a s69 1134 = ps_a (ps_ui (ps_ua s 1149 (Int32.toNatClampNeg (ps_i s 1131 34)) 1) 1131 34 ((ps_i s 1131 34) + 1)) 1134 from (K69.2 1134 rfl).1]; exact hO
      have hB : Fm σ (ps_a s69 1134) (41 * (ps_a s 1154 (Int32.toNatClampNeg x1)).toInt) := by rw [show ps_a s69 1134 = ps_a (ps_ui (ps_ua s 1149 (Int32.toNatClampNeg (ps_i s 1131 34)) 1) 1131 34 ((ps_i s 1131 34) + 1)) 1134 from (K69.2 1134 rfl).1]; exact hB
      have hM2 : Md (ps_a s69 1149) (ps_i s69 1131 34).toInt (([] ++ [1]) ++ l) := p69_0
      refine pg_245_0 ?_
      refine ps_nd_i (show pm_in x1 40 = true from xgi (show 0 ≤ x1.toInt from by omega) (show x1.toInt < 40 from by omega)) ?_
      have r71_k : 0 ≤ (ps_a s69 1154 (Int32.toNatClampNeg x1)).toInt ∧ (ps_a s69 1154 (Int32.toNatClampNeg x1)).toInt ≤ 9999 := ma_1154 (i := x1) J69 (show 0 ≤ x1.toInt from by omega) (show x1.toInt < 40 from by omega)
      have u72 : (ps_a s69 1154 (Int32.toNatClampNeg x1)).toInt = (ps_a s 1154 (Int32.toNatClampNeg x1)).toInt := xeq (kp_a K69 1154 rfl _)
      have r73_k : 0 ≤ (ps_a s 1154 (Int32.toNatClampNeg x1)).toInt ∧ (ps_a s 1154 (Int32.toNatClampNeg x1)).toInt ≤ 9999 := ma_1154 (i := x1) J (show 0 ≤ x1.toInt from by omega) (show x1.toInt < 40 from by omega)
      refine pg_242_0 ?_
      have a74_k : ((41 : Int32) * (ps_a s69 1154 (Int32.toNatClampNeg x1))).toInt = (41 : Int) * (ps_a s69 1154 (Int32.toNatClampNeg x1)).toInt := xIm (show -2147483648 ≤ (41 : Int) * (ps_a s69 1154 (Int32.toNatClampNeg x1)).toInt from by omega) (show (41 : Int) * (ps_a s69 1154 (Int32.toNatClampNeg x1)).toInt < 2147483648 from by omega)
      have a75_k : ((0 : Int32) + ((41 : Int32) * (ps_a s69 1154 (Int32.toNatClampNeg x1)))).toInt = (0 : Int) + ((41 : Int32) * (ps_a s69 1154 (Int32.toNatClampNeg x1))).toInt := xIa (show -2147483648 ≤ (0 : Int) + ((41 : Int32) * (ps_a s69 1154 (Int32.toNatClampNeg x1))).toInt from by omega) (show (0 : Int) + ((41 : Int32) * (ps_a s69 1154 (Int32.toNatClampNeg x1))).toInt < 2147483648 from by omega)
      obtain ⟨l2, hl3, hl4⟩ := id hB
      have hlen2 := hl3.2.2.2.1
      refine ms_227 J69 ((by rw [show (((0 : Int32) + ((41 : Int32) * (ps_a s69 1154 (Int32.toNatClampNeg x1))))).toInt = 41 * (ps_a s 1154 (Int32.toNatClampNeg x1)).toInt from by omega]; exact hl3)) (hM2) ((by simp only [List.length_append, List.length_cons, List.length_nil]; omega)) (fun s76 J76 K76 p76_0 => ?_)
      have K77 := kpt K70 K76 rfl rfl
      have KC := K76
      have hS : Sg (ps_a s76 1135) (ps_a s76 1136) (ps_a s76 1138) (ps_a s76 1139) (ps_i s76 1131 21).toInt σ := by rw [show ps_a s76 1135 = ps_a s69 1135 from (K76.2 1135 rfl).1, show ps_a s76 1136 = ps_a s69 1136 from (K76.2 1136 rfl).1, show ps_a s76 1138 = ps_a s69 1138 from (K76.2 1138 rfl).1, show ps_a s76 1139 = ps_a s69 1139 from (K76.2 1139 rfl).1, show ps_i s76 1131 21 = ps_i s69 1131 21 from kp_i K76 21 rfl]; exact hS
      have hC : SC σ (ps_a s76 1134) (ps_a s76 1157) (ps_a s76 1152) (ps_a s76 1153) (ps_a s76 1154) (ps_a s76 1155) (ps_i s76 1131 21).toInt x1.toInt := by rw [show ps_a s76 1134 = ps_a s69 1134 from (K76.2 1134 rfl).1, show ps_a s76 1157 = ps_a s69 1157 from (K76.2 1157 rfl).1, show ps_a s76 1152 = ps_a s69 1152 from (K76.2 1152 rfl).1, show ps_a s76 1153 = ps_a s69 1153 from (K76.2 1153 rfl).1, show ps_a s76 1154 = ps_a s69 1154 from (K76.2 1154 rfl).1, show ps_a s76 1155 = ps_a s69 1155 from (K76.2 1155 rfl).1, show ps_i s76 1131 21 = ps_i s69 1131 21 from kp_i K76 21 rfl]; exact hC
      have hA : As σ (ps_a s76 1134) x1.toInt (ps_i s76 1131 51).toInt := by rw [show ps_a s76 1134 = ps_a s69 1134 from (K76.2 1134 rfl).1, show ps_i s76 1131 51 = ps_i s69 1131 51 from kp_i K76 51 rfl]; exact hA
      have hO : OutB (ps_a s 1134) (ps_a s76 1134) x1.toInt := by rw [show ps_a s76 1134 = ps_a s69 1134 from (K76.2 1134 rfl).1]; exact hO
      have hB : Fm σ (ps_a s76 1134) (41 * (ps_a s 1154 (Int32.toNatClampNeg x1)).toInt) := by rw [show ps_a s76 1134 = ps_a s69 1134 from (K76.2 1134 rfl).1]; exact hB
      have hM3 : Md (ps_a s76 1149) (ps_i s76 1131 34).toInt ((([] ++ [1]) ++ l) ++ l2) := p76_0
      have r78_k := mf_51 J76
      have u79 : (ps_i s76 1131 51).toInt = (ps_i s69 1131 51).toInt := xeq (kp_i K76 51 rfl)
      have r80_k := mf_51 J69
      have u81 : (ps_i s69 1131 51).toInt = (ps_i s 1131 51).toInt := xeq (kp_i K69 51 rfl)
      have r82_k : 0 ≤ (ps_a s76 1152 (Int32.toNatClampNeg x1)).toInt ∧ (ps_a s76 1152 (Int32.toNatClampNeg x1)).toInt ≤ 18 := ma_1152 (i := x1) J76 (show 0 ≤ x1.toInt from by omega) (show x1.toInt < 40 from by omega)
      have u83 : (ps_a s76 1152 (Int32.toNatClampNeg x1)).toInt = (ps_a s69 1152 (Int32.toNatClampNeg x1)).toInt := xeq (kp_a K76 1152 rfl _)
      have r84_k : 0 ≤ (ps_a s69 1152 (Int32.toNatClampNeg x1)).toInt ∧ (ps_a s69 1152 (Int32.toNatClampNeg x1)).toInt ≤ 18 := ma_1152 (i := x1) J69 (show 0 ≤ x1.toInt from by omega) (show x1.toInt < 40 from by omega)
      have u85 : (ps_a s69 1152 (Int32.toNatClampNeg x1)).toInt = (ps_a s 1152 (Int32.toNatClampNeg x1)).toInt := xeq (kp_a K69 1152 rfl _)
      exact ms_253_202 (x1 := x1) (σ := σ) k   _ J76 K77 hS hC hA hO (show 0 ≤ x1.toInt from by omega) (show x1.toInt < 40 from by omega) (show (ps_i s 1131 51).toInt ≤ 100 from by omega) (show (ps_i s76 1131 51).toInt = (ps_i s 1131 51).toInt from by omega) (show 3 ≤ (ps_a s76 1152 (Int32.toNatClampNeg x1)).toInt from by omega) (show (ps_a s76 1152 (Int32.toNatClampNeg x1)).toInt < 8 from by omega) (⟨_, hM3, by simp only [List.length_append, List.length_cons, List.length_nil]; omega, Or.inl (show ws σ (1 :: (l ++ l2)) [true] from ws_c (W' := []) (kS_f2 (by decide) (by decide)) (ws_app (W1 := [true]) (W2 := [true]) (wf_ws hl2) (wf_ws hl4)))⟩)
  have f86_k : (ps_a s 1152 (Int32.toNatClampNeg x1)).toInt ≠ (3 : Int) := xne h38_k
  refine And.intro (fun h87_k => ?_) (fun h87_k => ?_)
  · have f88_k : (ps_a s 1152 (Int32.toNatClampNeg x1)).toInt = (4 : Int) := xeq h87_k
    have hA1 := (SC_1 (j := ((0 : Int32) + ((41 : Int32) * (ps_a s 1153 (Int32.toNatClampNeg x1))))) hC rfl (by omega) (by omega)).1
    refine ms_254 J hS (hA1) hM (show 0 ≤ x1.toInt from by omega) (show x1.toInt < 40 from by omega) (fun s89 J89 K89 p89_0 => ?_)
    have K90 := kpt K K89 rfl rfl
    have KC := K89
    have hS : Sg (ps_a s89 1135) (ps_a s89 1136) (ps_a s89 1138) (ps_a s89 1139) (ps_i s89 1131 21).toInt σ := by rw [show ps_a s89 1135 = ps_a s 1135 from (K89.2 1135 rfl).1, show ps_a s89 1136 = ps_a s 1136 from (K89.2 1136 rfl).1, show ps_a s89 1138 = ps_a s 1138 from (K89.2 1138 rfl).1, show ps_a s89 1139 = ps_a s 1139 from (K89.2 1139 rfl).1, show ps_i s89 1131 21 = ps_i s 1131 21 from kp_i K89 21 rfl]; exact hS
    have hC : SC σ (ps_a s89 1134) (ps_a s89 1157) (ps_a s89 1152) (ps_a s89 1153) (ps_a s89 1154) (ps_a s89 1155) (ps_i s89 1131 21).toInt x1.toInt := by rw [show ps_a s89 1134 = ps_a s 1134 from (K89.2 1134 rfl).1, show ps_a s89 1157 = ps_a s 1157 from (K89.2 1157 rfl).1, show ps_a s89 1152 = ps_a s 1152 from (K89.2 1152 rfl).1, show ps_a s89 1153 = ps_a s 1153 from (K89.2 1153 rfl).1, show ps_a s89 1154 = ps_a s 1154 from (K89.2 1154 rfl).1, show ps_a s89 1155 = ps_a s 1155 from (K89.2 1155 rfl).1, show ps_i s89 1131 21 = ps_i s 1131 21 from kp_i K89 21 rfl]; exact hC
    have hA : As σ (ps_a s89 1134) x1.toInt (ps_i s89 1131 51).toInt := by rw [show ps_a s89 1134 = ps_a s 1134 from (K89.2 1134 rfl).1, show ps_i s89 1131 51 = ps_i s 1131 51 from kp_i K89 51 rfl]; exact hA
    have hO : OutB (ps_a s 1134) (ps_a s89 1134) x1.toInt := by rw [show ps_a s89 1134 = ps_a s 1134 from (K89.2 1134 rfl).1]; exact hO
    have hRs : Res σ (ps_a s89 1149) (ps_i s89 1131 34).toInt (ps_i s89 1131 50).toInt := p89_0
    have r91_k := mf_51 J89
    have u92 : (ps_i s89 1131 51).toInt = (ps_i s 1131 51).toInt := xeq (kp_i K89 51 rfl)
    have r93_k : 0 ≤ (ps_a s89 1152 (Int32.toNatClampNeg x1)).toInt ∧ (ps_a s89 1152 (Int32.toNatClampNeg x1)).toInt ≤ 18 := ma_1152 (i := x1) J89 (show 0 ≤ x1.toInt from by omega) (show x1.toInt < 40 from by omega)
    have u94 : (ps_a s89 1152 (Int32.toNatClampNeg x1)).toInt = (ps_a s 1152 (Int32.toNatClampNeg x1)).toInt := xeq (kp_a K89 1152 rfl _)
    exact ms_253_202 (x1 := x1) (σ := σ) k   _ J89 K90 hS hC hA hO (show 0 ≤ x1.toInt from by omega) (show x1.toInt < 40 from by omega) (show (ps_i s 1131 51).toInt ≤ 100 from by omega) (show (ps_i s89 1131 51).toInt = (ps_i s 1131 51).toInt from by omega) (show 3 ≤ (ps_a s89 1152 (Int32.toNatClampNeg x1)).toInt from by omega) (show (ps_a s89 1152 (Int32.toNatClampNeg x1)).toInt < 8 from by omega) hRs
  have f95_k : (ps_a s 1152 (Int32.toNatClampNeg x1)).toInt ≠ (4 : Int) := xne h87_k
  refine And.intro (fun h96_k => ?_) (fun h96_k => ?_)
  · have f97_k : (ps_a s 1152 (Int32.toNatClampNeg x1)).toInt = (5 : Int) := xeq h96_k
    have hA1 := (SC_1 (j := ((0 : Int32) + ((41 : Int32) * (ps_a s 1153 (Int32.toNatClampNeg x1))))) hC rfl (by omega) (by omega)).1
    refine ms_254 J hS (hA1) hM (show 0 ≤ x1.toInt from by omega) (show x1.toInt < 40 from by omega) (fun s98 J98 K98 p98_0 => ?_)
    have K99 := kpt K K98 rfl rfl
    have KC := K98
    have hS : Sg (ps_a s98 1135) (ps_a s98 1136) (ps_a s98 1138) (ps_a s98 1139) (ps_i s98 1131 21).toInt σ := by rw [show ps_a s98 1135 = ps_a s 1135 from (K98.2 1135 rfl).1, show ps_a s98 1136 = ps_a s 1136 from (K98.2 1136 rfl).1, show ps_a s98 1138 = ps_a s 1138 from (K98.2 1138 rfl).1, show ps_a s98 1139 = ps_a s 1139 from (K98.2 1139 rfl).1, show ps_i s98 1131 21 = ps_i s 1131 21 from kp_i K98 21 rfl]; exact hS
    have hC : SC σ (ps_a s98 1134) (ps_a s98 1157) (ps_a s98 1152) (ps_a s98 1153) (ps_a s98 1154) (ps_a s98 1155) (ps_i s98 1131 21).toInt x1.toInt := by rw [show ps_a s98 1134 = ps_a s 1134 from (K98.2 1134 rfl).1, show ps_a s98 1157 = ps_a s 1157 from (K98.2 1157 rfl).1, show ps_a s98 1152 = ps_a s 1152 from (K98.2 1152 rfl).1, show ps_a s98 1153 = ps_a s 1153 from (K98.2 1153 rfl).1, show ps_a s98 1154 = ps_a s 1154 from (K98.2 1154 rfl).1, show ps_a s98 1155 = ps_a s 1155 from (K98.2 1155 rfl).1, show ps_i s98 1131 21 = ps_i s 1131 21 from kp_i K98 21 rfl]; exact hC
    have hA : As σ (ps_a s98 1134) x1.toInt (ps_i s98 1131 51).toInt := by rw [show ps_a s98 1134 = ps_a s 1134 from (K98.2 1134 rfl).1, show ps_i s98 1131 51 = ps_i s 1131 51 from kp_i K98 51 rfl]; exact hA
    have hO : OutB (ps_a s 1134) (ps_a s98 1134) x1.toInt := by rw [show ps_a s98 1134 = ps_a s 1134 from (K98.2 1134 rfl).1]; exact hO
    have hRs : Res σ (ps_a s98 1149) (ps_i s98 1131 34).toInt (ps_i s98 1131 50).toInt := p98_0
    have r100_k := mf_51 J98
    have u101 : (ps_i s98 1131 51).toInt = (ps_i s 1131 51).toInt := xeq (kp_i K98 51 rfl)
    have r102_k : 0 ≤ (ps_a s98 1152 (Int32.toNatClampNeg x1)).toInt ∧ (ps_a s98 1152 (Int32.toNatClampNeg x1)).toInt ≤ 18 := ma_1152 (i := x1) J98 (show 0 ≤ x1.toInt from by omega) (show x1.toInt < 40 from by omega)
    have u103 : (ps_a s98 1152 (Int32.toNatClampNeg x1)).toInt = (ps_a s 1152 (Int32.toNatClampNeg x1)).toInt := xeq (kp_a K98 1152 rfl _)
    exact ms_253_202 (x1 := x1) (σ := σ) k   _ J98 K99 hS hC hA hO (show 0 ≤ x1.toInt from by omega) (show x1.toInt < 40 from by omega) (show (ps_i s 1131 51).toInt ≤ 100 from by omega) (show (ps_i s98 1131 51).toInt = (ps_i s 1131 51).toInt from by omega) (show 3 ≤ (ps_a s98 1152 (Int32.toNatClampNeg x1)).toInt from by omega) (show (ps_a s98 1152 (Int32.toNatClampNeg x1)).toInt < 8 from by omega) hRs
  have f104_k : (ps_a s 1152 (Int32.toNatClampNeg x1)).toInt ≠ (5 : Int) := xne h96_k
  refine pg_225_0 ?_
  have r105_k := mf_34 J
  refine And.intro (fun h106_k => ?_) (fun h106_k => ?_)
  · have f107_k : (260 : Int) ≤ (ps_i s 1131 34).toInt := xle h106_k
    have a108_k : ((ps_i s 1131 34) + 1).toInt = (ps_i s 1131 34).toInt + (1 : Int) := xIa (show -2147483648 ≤ (ps_i s 1131 34).toInt + (1 : Int) from by omega) (show (ps_i s 1131 34).toInt + (1 : Int) < 2147483648 from by omega)
    have J109 := mwi_34 (v := ((ps_i s 1131 34) + 1)) J (show 0 ≤ ((ps_i s 1131 34) + 1).toInt from by omega) (show ((ps_i s 1131 34) + 1).toInt ≤ 100000 from by omega)
    have K110 := kpi K (q := 34) (v := ((ps_i s 1131 34) + 1)) rfl
    have hM1 : Md (ps_a (ps_ui s 1131 34 ((ps_i s 1131 34) + 1)) 1149) (ps_i (ps_ui s 1131 34 ((ps_i s 1131 34) + 1)) 1131 34).toInt ([] ++ [2]) := by first | exact Md_make hM rfl (by decide) | exact Md_make' hM (by decide) (by omega)
    refine ps_nd_i (show pm_in x1 40 = true from xgi (show 0 ≤ x1.toInt from by omega) (show x1.toInt < 40 from by omega)) ?_
    refine And.intro (fun h111_k => ?_) (fun h111_k => ?_)
    · have f112_k : (ps_a s 1152 (Int32.toNatClampNeg x1)).toInt ≠ (6 : Int) := xne h111_k
      exact ms_253_174 (x1 := x1) (σ := σ) k  ((0 : Int32) + ((41 : Int32) * (ps_a s 1153 (Int32.toNatClampNeg x1)))) _ J109 K110 hS hC hA hO (show 0 ≤ x1.toInt from by omega) (show x1.toInt < 40 from by omega) (show (ps_i s 1131 51).toInt ≤ 100 from by omega) (show (ps_i s 1131 51).toInt = (ps_i s 1131 51).toInt from by omega) (show (ps_a s 1152 (Int32.toNatClampNeg x1)).toInt = 6 ∨ (ps_a s 1152 (Int32.toNatClampNeg x1)).toInt = 7 from by omega) (show ((0 : Int32) + ((41 : Int32) * (ps_a s 1153 (Int32.toNatClampNeg x1)))).toInt = 41 * (ps_a s 1153 (Int32.toNatClampNeg x1)).toInt from by omega) (⟨_, hM1, by simp only [List.length_append, List.length_cons, List.length_nil]; omega, Or.inr ⟨(show (ps_a s 1152 (Int32.toNatClampNeg x1)).toInt = 7 from by omega), fun m hm => (show ws σ (2 :: m) [true] from ws_c (W' := []) (kS_f2 (by decide) (by decide)) hm)⟩⟩)
    · have f113_k : (ps_a s 1152 (Int32.toNatClampNeg x1)).toInt = (6 : Int) := xeq h111_k
      obtain ⟨l, hl1, hl2⟩ := SC_1i hC rfl (by omega)
      have hlen := hl1.2.2.2.1
      refine ms_227 J109 ((by rw [show (((0 : Int32) + ((41 : Int32) * (ps_a s 1153 (Int32.toNatClampNeg x1))))).toInt = 41 * (ps_a s 1153 (Int32.toNatClampNeg x1)).toInt from by omega]; exact hl1)) (hM1) ((by simp only [List.length_append, List.length_cons, List.length_nil]; omega)) (fun s114 J114 K114 p114_0 => ?_)
      have K115 := kpt K110 K114 rfl rfl
      have KC := K114
      have hS : Sg (ps_a s114 1135) (ps_a s114 1136) (ps_a s114 1138) (ps_a s114 1139) (ps_i s114 1131 21).toInt σ := by rw [show ps_a s114 1135 = ps_a (ps_ui s 1131 34 ((ps_i s 1131 34) + 1)) 1135 from (K114.2 1135 rfl).1, show ps_a s114 1136 = ps_a (ps_ui s 1131 34 ((ps_i s 1131 34) + 1)) 1136 from (K114.2 1136 rfl).1, show ps_a s114 1138 = ps_a (ps_ui s 1131 34 ((ps_i s 1131 34) + 1)) 1138 from (K114.2 1138 rfl).1, show ps_a s114 1139 = ps_a (ps_ui s 1131 34 ((ps_i s 1131 34) + 1)) 1139 from (K114.2 1139 rfl).1, show ps_i s114 1131 21 = ps_i (ps_ui s 1131 34 ((ps_i s 1131 34) + 1)) 1131 21 from kp_i K114 21 rfl]; exact hS
      have hC : SC σ (ps_a s114 1134) (ps_a s114 1157) (ps_a s114 1152) (ps_a s114 1153) (ps_a s114 1154) (ps_a s114 1155) (ps_i s114 1131 21).toInt x1.toInt := by rw [show ps_a s114 1134 = ps_a (ps_ui s 1131 34 ((ps_i s 1131 34) + 1)) 1134 from (K114.2 1134 rfl).1, show ps_a s114 1157 = ps_a (ps_ui s 1131 34 ((ps_i s 1131 34) + 1)) 1157 from (K114.2 1157 rfl).1, show ps_a s114 1152 = ps_a (ps_ui s 1131 34 ((ps_i s 1131 34) + 1)) 1152 from (K114.2 1152 rfl).1, show ps_a s114 1153 = ps_a (ps_ui s 1131 34 ((ps_i s 1131 34) + 1)) 1153 from (K114.2 1153 rfl).1, show ps_a s114 1154 = ps_a (ps_ui s 1131 34 ((ps_i s 1131 34) + 1)) 1154 from (K114.2 1154 rfl).1, show ps_a s114 1155 = ps_a (ps_ui s 1131 34 ((ps_i s 1131 34) + 1)) 1155 from (K114.2 1155 rfl).1, show ps_i s114 1131 21 = ps_i (ps_ui s 1131 34 ((ps_i s 1131 34) + 1)) 1131 21 from kp_i K114 21 rfl]; exact hC
      have hA : As σ (ps_a s114 1134) x1.toInt (ps_i s114 1131 51).toInt := by rw [show ps_a s114 1134 = ps_a (ps_ui s 1131 34 ((ps_i s 1131 34) + 1)) 1134 from (K114.2 1134 rfl).1, show ps_i s114 1131 51 = ps_i (ps_ui s 1131 34 ((ps_i s 1131 34) + 1)) 1131 51 from kp_i K114 51 rfl]; exact hA
      have hO : OutB (ps_a s 1134) (ps_a s114 1134) x1.toInt := by rw [show ps_a s114 1134 = ps_a (ps_ui s 1131 34 ((ps_i s 1131 34) + 1)) 1134 from (K114.2 1134 rfl).1]; exact hO
      have hM2 : Md (ps_a s114 1149) (ps_i s114 1131 34).toInt (([] ++ [2]) ++ l) := p114_0
      have r116_k := mf_51 J114
      have u117 : (ps_i s114 1131 51).toInt = (ps_i s 1131 51).toInt := xeq (kp_i K114 51 rfl)
      have r118_k : 0 ≤ (ps_a s114 1152 (Int32.toNatClampNeg x1)).toInt ∧ (ps_a s114 1152 (Int32.toNatClampNeg x1)).toInt ≤ 18 := ma_1152 (i := x1) J114 (show 0 ≤ x1.toInt from by omega) (show x1.toInt < 40 from by omega)
      have u119 : (ps_a s114 1152 (Int32.toNatClampNeg x1)).toInt = (ps_a s 1152 (Int32.toNatClampNeg x1)).toInt := xeq (kp_a K114 1152 rfl _)
      have r120_k : -1 ≤ (ps_a s114 1153 (Int32.toNatClampNeg x1)).toInt ∧ (ps_a s114 1153 (Int32.toNatClampNeg x1)).toInt ≤ 9999 := ma_1153 (i := x1) J114 (show 0 ≤ x1.toInt from by omega) (show x1.toInt < 40 from by omega)
      have u121 : (ps_a s114 1153 (Int32.toNatClampNeg x1)).toInt = (ps_a s 1153 (Int32.toNatClampNeg x1)).toInt := xeq (kp_a K114 1153 rfl _)
      exact ms_253_174 (x1 := x1) (σ := σ) k  ((0 : Int32) + ((41 : Int32) * (ps_a s 1153 (Int32.toNatClampNeg x1)))) _ J114 K115 hS hC hA hO (show 0 ≤ x1.toInt from by omega) (show x1.toInt < 40 from by omega) (show (ps_i s 1131 51).toInt ≤ 100 from by omega) (show (ps_i s114 1131 51).toInt = (ps_i s 1131 51).toInt from by omega) (show (ps_a s114 1152 (Int32.toNatClampNeg x1)).toInt = 6 ∨ (ps_a s114 1152 (Int32.toNatClampNeg x1)).toInt = 7 from by omega) (show ((0 : Int32) + ((41 : Int32) * (ps_a s 1153 (Int32.toNatClampNeg x1)))).toInt = 41 * (ps_a s114 1153 (Int32.toNatClampNeg x1)).toInt from by omega) (⟨_, hM2, by simp only [List.length_append, List.length_cons, List.length_nil]; omega, Or.inl ⟨by omega, fun m hm => (show ws σ (2 :: (l ++ m)) [true] from ws_c (W' := []) (kS_f2 (by decide) (by decide)) (ws_app (W1 := [true]) (W2 := [true]) (wf_ws hl2) hm))⟩⟩)
  · have f122_k : (ps_i s 1131 34).toInt < (260 : Int) := xlt h106_k
    refine ps_nd_i (show pm_in (ps_i s 1131 34) 260 = true from xgi (show 0 ≤ (ps_i s 1131 34).toInt from by omega) (show (ps_i s 1131 34).toInt < 260 from by omega)) ?_
    have J123 := mwa_n 1149 (i := (Int32.toNatClampNeg (ps_i s 1131 34))) (v := (2 : Int32)) J rfl (by decide)
    have K124 := kpa' K (r := 1149) (i := (Int32.toNatClampNeg (ps_i s 1131 34))) (v := (2 : Int32)) rfl
    have a125_k : ((ps_i s 1131 34) + 1).toInt = (ps_i s 1131 34).toInt + (1 : Int) := xIa (show -2147483648 ≤ (ps_i s 1131 34).toInt + (1 : Int) from by omega) (show (ps_i s 1131 34).toInt + (1 : Int) < 2147483648 from by omega)
    have J126 := mwi_34 (v := ((ps_i s 1131 34) + 1)) J123 (show 0 ≤ ((ps_i s 1131 34) + 1).toInt from by omega) (show ((ps_i s 1131 34) + 1).toInt ≤ 100000 from by omega)
    have K127 := kpi K124 (q := 34) (v := ((ps_i s 1131 34) + 1)) rfl
    have hM1 : Md (ps_a (ps_ui (ps_ua s 1149 (Int32.toNatClampNeg (ps_i s 1131 34)) 2) 1131 34 ((ps_i s 1131 34) + 1)) 1149) (ps_i (ps_ui (ps_ua s 1149 (Int32.toNatClampNeg (ps_i s 1131 34)) 2) 1131 34 ((ps_i s 1131 34) + 1)) 1131 34).toInt ([] ++ [2]) := by first | exact Md_make hM rfl (by decide) | exact Md_make' hM (by decide) (by omega)
    refine ps_nd_i (show pm_in x1 40 = true from xgi (show 0 ≤ x1.toInt from by omega) (show x1.toInt < 40 from by omega)) ?_
    refine And.intro (fun h128_k => ?_) (fun h128_k => ?_)
    · have f129_k : (ps_a s 1152 (Int32.toNatClampNeg x1)).toInt ≠ (6 : Int) := xne h128_k
      exact ms_253_174 (x1 := x1) (σ := σ) k  ((0 : Int32) + ((41 : Int32) * (ps_a s 1153 (Int32.toNatClampNeg x1)))) _ J126 K127 hS hC hA hO (show 0 ≤ x1.toInt from by omega) (show x1.toInt < 40 from by omega) (show (ps_i s 1131 51).toInt ≤ 100 from by omega) (show (ps_i s 1131 51).toInt = (ps_i s 1131 51).toInt from by omega) (show (ps_a s 1152 (Int32.toNatClampNeg x1)).toInt = 6 ∨ (ps_a s 1152 (Int32.toNatClampNeg x1)).toInt = 7 from by omega) (show ((0 : Int32) + ((41 : Int32) * (ps_a s 1153 (Int32.toNatClampNeg x1)))).toInt = 41 * (ps_a s 1153 (Int32.toNatClampNeg x1)).toInt from by omega) (⟨_, hM1, by simp only [List.length_append, List.length_cons, List.length_nil]; omega, Or.inr ⟨(show (ps_a s 1152 (Int32.toNatClampNeg x1)).toInt = 7 from by omega), fun m hm => (show ws σ (2 :: m) [true] from ws_c (W' := []) (kS_f2 (by decide) (by decide)) hm)⟩⟩)
    · have f130_k : (ps_a s 1152 (Int32.toNatClampNeg x1)).toInt = (6 : Int) := xeq h128_k
      obtain ⟨l, hl1, hl2⟩ := SC_1i hC rfl (by omega)
      have hlen := hl1.2.2.2.1
      refine ms_227 J126 ((by rw [show (((0 : Int32) + ((41 : Int32) * (ps_a s 1153 (Int32.toNatClampNeg x1))))).toInt = 41 * (ps_a s 1153 (Int32.toNatClampNeg x1)).toInt from by omega]; exact hl1)) (hM1) ((by simp only [List.length_append, List.length_cons, List.length_nil]; omega)) (fun s131 J131 K131 p131_0 => ?_)
      have K132 := kpt K127 K131 rfl rfl
      have KC := K131
      have hS : Sg (ps_a s131 1135) (ps_a s131 1136) (ps_a s131 1138) (ps_a s131 1139) (ps_i s131 1131 21).toInt σ := by rw [show ps_a s131 1135 = ps_a (ps_ui (ps_ua s 1149 (Int32.toNatClampNeg (ps_i s 1131 34)) 2) 1131 34 ((ps_i s 1131 34) + 1)) 1135 from (K131.2 1135 rfl).1, show ps_a s131 1136 = ps_a (ps_ui (ps_ua s 1149 (Int32.toNatClampNeg (ps_i s 1131 34)) 2) 1131 34 ((ps_i s 1131 34) + 1)) 1136 from (K131.2 1136 rfl).1, show ps_a s131 1138 = ps_a (ps_ui (ps_ua s 1149 (Int32.toNatClampNeg (ps_i s 1131 34)) 2) 1131 34 ((ps_i s 1131 34) + 1)) 1138 from (K131.2 1138 rfl).1, show ps_a s131 1139 = ps_a (ps_ui (ps_ua s 1149 (Int32.toNatClampNeg (ps_i s 1131 34)) 2) 1131 34 ((ps_i s 1131 34) + 1)) 1139 from (K131.2 1139 rfl).1, show ps_i s131 1131 21 = ps_i (ps_ui (ps_ua s 1149 (Int32.toNatClampNeg (ps_i s 1131 34)) 2) 1131 34 ((ps_i s 1131 34) + 1)) 1131 21 from kp_i K131 21 rfl]; exact hS
      have hC : SC σ (ps_a s131 1134) (ps_a s131 1157) (ps_a s131 1152) (ps_a s131 1153) (ps_a s131 1154) (ps_a s131 1155) (ps_i s131 1131 21).toInt x1.toInt := by rw [show ps_a s131 1134 = ps_a (ps_ui (ps_ua s 1149 (Int32.toNatClampNeg (ps_i s 1131 34)) 2) 1131 34 ((ps_i s 1131 34) + 1)) 1134 from (K131.2 1134 rfl).1, show ps_a s131 1157 = ps_a (ps_ui (ps_ua s 1149 (Int32.toNatClampNeg (ps_i s 1131 34)) 2) 1131 34 ((ps_i s 1131 34) + 1)) 1157 from (K131.2 1157 rfl).1, show ps_a s131 1152 = ps_a (ps_ui (ps_ua s 1149 (Int32.toNatClampNeg (ps_i s 1131 34)) 2) 1131 34 ((ps_i s 1131 34) + 1)) 1152 from (K131.2 1152 rfl).1, show ps_a s131 1153 = ps_a (ps_ui (ps_ua s 1149 (Int32.toNatClampNeg (ps_i s 1131 34)) 2) 1131 34 ((ps_i s 1131 34) + 1)) 1153 from (K131.2 1153 rfl).1, show ps_a s131 1154 = ps_a (ps_ui (ps_ua s 1149 (Int32.toNatClampNeg (ps_i s 1131 34)) 2) 1131 34 ((ps_i s 1131 34) + 1)) 1154 from (K131.2 1154 rfl).1, show ps_a s131 1155 = ps_a (ps_ui (ps_ua s 1149 (Int32.toNatClampNeg (ps_i s 1131 34)) 2) 1131 34 ((ps_i s 1131 34) + 1)) 1155 from (K131.2 1155 rfl).1, show ps_i s131 1131 21 = ps_i (ps_ui (ps_ua s 1149 (Int32.toNatClampNeg (ps_i s 1131 34)) 2) 1131 34 ((ps_i s 1131 34) + 1)) 1131 21 from kp_i K131 21 rfl]; exact hC
      have hA : As σ (ps_a s131 1134) x1.toInt (ps_i s131 1131 51).toInt := by rw [show ps_a s131 1134 = ps_a (ps_ui (ps_ua s 1149 (Int32.toNatClampNeg (ps_i s 1131 34)) 2) 1131 34 ((ps_i s 1131 34) + 1)) 1134 from (K131.2 1134 rfl).1, show ps_i s131 1131 51 = ps_i (ps_ui (ps_ua s 1149 (Int32.toNatClampNeg (ps_i s 1131 34)) 2) 1131 34 ((ps_i s 1131 34) + 1)) 1131 51 from kp_i K131 51 rfl]; exact hA
      have hO : OutB (ps_a s 1134) (ps_a s131 1134) x1.toInt := by rw [show ps_a s131 1134 = ps_a (ps_ui (ps_ua s 1149 (Int32.toNatClampNeg (ps_i s 1131 34)) 2) 1131 34 ((ps_i s 1131 34) + 1)) 1134 from (K131.2 1134 rfl).1]; exact hO
      have hM2 : Md (ps_a s131 1149) (ps_i s131 1131 34).toInt (([] ++ [2]) ++ l) := p131_0
      have r133_k := mf_51 J131
      have u134 : (ps_i s131 1131 51).toInt = (ps_i s 1131 51).toInt := xeq (kp_i K131 51 rfl)
      have r135_k : 0 ≤ (ps_a s131 1152 (Int32.toNatClampNeg x1)).toInt ∧ (ps_a s131 1152 (Int32.toNatClampNeg x1)).toInt ≤ 18 := ma_1152 (i := x1) J131 (show 0 ≤ x1.toInt from by omega) (show x1.toInt < 40 from by omega)
      have u136 : (ps_a s131 1152 (Int32.toNatClampNeg x1)).toInt = (ps_a s 1152 (Int32.toNatClampNeg x1)).toInt := xeq (kp_a K131 1152 rfl _)
      have r137_k : -1 ≤ (ps_a s131 1153 (Int32.toNatClampNeg x1)).toInt ∧ (ps_a s131 1153 (Int32.toNatClampNeg x1)).toInt ≤ 9999 := ma_1153 (i := x1) J131 (show 0 ≤ x1.toInt from by omega) (show x1.toInt < 40 from by omega)
      have u138 : (ps_a s131 1153 (Int32.toNatClampNeg x1)).toInt = (ps_a s 1153 (Int32.toNatClampNeg x1)).toInt := xeq (kp_a K131 1153 rfl _)
      exact ms_253_174 (x1 := x1) (σ := σ) k  ((0 : Int32) + ((41 : Int32) * (ps_a s 1153 (Int32.toNatClampNeg x1)))) _ J131 K132 hS hC hA hO (show 0 ≤ x1.toInt from by omega) (show x1.toInt < 40 from by omega) (show (ps_i s 1131 51).toInt ≤ 100 from by omega) (show (ps_i s131 1131 51).toInt = (ps_i s 1131 51).toInt from by omega) (show (ps_a s131 1152 (Int32.toNatClampNeg x1)).toInt = 6 ∨ (ps_a s131 1152 (Int32.toNatClampNeg x1)).toInt = 7 from by omega) (show ((0 : Int32) + ((41 : Int32) * (ps_a s 1153 (Int32.toNatClampNeg x1)))).toInt = 41 * (ps_a s131 1153 (Int32.toNatClampNeg x1)).toInt from by omega) (⟨_, hM2, by simp only [List.length_append, List.length_cons, List.length_nil]; omega, Or.inl ⟨by omega, fun m hm => (show ws σ (2 :: (l ++ m)) [true] from ws_c (W' := []) (kS_f2 (by decide) (by decide)) (ws_app (W1 := [true]) (W2 := [true]) (wf_ws hl2) hm))⟩⟩)
