section
set_option maxRecDepth 100000
-- ProofBenchModel.takesPlain(I)V
theorem pg_253_0 {d : Nat} {x1 : Int32} {s : ps_S} {Q : Option Value → ps_S → Prop} (h :
  ps_Cl d 244 [.ref 1131, .int x1] s (ps_rI (fun v1 s1 =>
    ps_nd (pm_in x1 40) (((ps_a s1 1152 (Int32.toNatClampNeg x1)) = 0 →
      ps_Cl d 227 [.ref 1131, .int ((22468 : Int32) + ((41 : Int32) * x1))] s1 (ps_rV (fun s2 =>
        ps_Cl d 248 [.ref 1131, .int x1, .int ((22468 : Int32) + ((41 : Int32) * x1))] s2 (ps_rV (fun s3 =>
          Q none s3))))) ∧
    ((ps_a s1 1152 (Int32.toNatClampNeg x1)) ≠ 0 →
      ((ps_a s1 1152 (Int32.toNatClampNeg x1)) = 1 →
      ps_nd (pm_in x1 40) (ps_Cl d 227 [.ref 1131, .int ((21812 : Int32) + ((41 : Int32) * (((8 : Int32) * (ps_i s1 1131 21)) + (ps_a s1 1153 (Int32.toNatClampNeg x1)))))] s1 (ps_rV (fun s4 =>
        Q none s4)))) ∧
    ((ps_a s1 1152 (Int32.toNatClampNeg x1)) ≠ 1 →
      ((ps_a s1 1152 (Int32.toNatClampNeg x1)) = 2 →
      ps_nd (pm_in x1 40) (ps_Cl d 227 [.ref 1131, .int ((21320 : Int32) + ((41 : Int32) * (ps_a s1 1153 (Int32.toNatClampNeg x1))))] s1 (ps_rV (fun s5 =>
        Q none s5)))) ∧
    ((ps_a s1 1152 (Int32.toNatClampNeg x1)) ≠ 2 →
      ((ps_a s1 1152 (Int32.toNatClampNeg x1)) = 3 →
      ps_Cl d 225 [.ref 1131, .int 1] s1 (ps_rV (fun s6 =>
        ps_Cl d 227 [.ref 1131, .int v1] s6 (ps_rV (fun s7 =>
          ps_Cl d 245 [.ref 1131, .int x1] s7 (ps_rI (fun v8 s8 =>
            ps_Cl d 227 [.ref 1131, .int v8] s8 (ps_rV (fun s9 =>
              ps_At (d + 1) 253 202 [(0, .ref 1131), (1, .int x1)] [] s9 Q))))))))) ∧
    ((ps_a s1 1152 (Int32.toNatClampNeg x1)) ≠ 3 →
      ((ps_a s1 1152 (Int32.toNatClampNeg x1)) = 4 →
      ps_Cl d 254 [.ref 1131, .int x1, .int v1] s1 (ps_rV (fun s10 =>
        ps_At (d + 1) 253 202 [(0, .ref 1131), (1, .int x1)] [] s10 Q))) ∧
    ((ps_a s1 1152 (Int32.toNatClampNeg x1)) ≠ 4 →
      ((ps_a s1 1152 (Int32.toNatClampNeg x1)) = 5 →
      ps_Cl d 254 [.ref 1131, .int x1, .int v1] s1 (ps_rV (fun s11 =>
        ps_At (d + 1) 253 202 [(0, .ref 1131), (1, .int x1)] [] s11 Q))) ∧
    ((ps_a s1 1152 (Int32.toNatClampNeg x1)) ≠ 5 →
      ps_Cl d 225 [.ref 1131, .int 2] s1 (ps_rV (fun s12 =>
      ps_nd (pm_in x1 40) (((ps_a s12 1152 (Int32.toNatClampNeg x1)) ≠ 6 →
        ps_At (d + 1) 253 174 [(0, .ref 1131), (1, .int x1), (2, .int v1)] [] s12 Q) ∧
      ((ps_a s12 1152 (Int32.toNatClampNeg x1)) = 6 →
        ps_Cl d 227 [.ref 1131, .int v1] s12 (ps_rV (fun s13 =>
          ps_At (d + 1) 253 174 [(0, .ref 1131), (1, .int x1), (2, .int v1)] [] s13 Q)))))))))))))))) : ps_At (d + 1) 253 0 [(0, .ref 1131), (1, .int x1)] [] s Q :=
  ps_wp_at (stops := [(174, [0, 1, 2]), (202, [0, 1])]) (n := 88) h rfl

theorem pg_253_174 {d : Nat} {x1 : Int32} {x2 : Int32} {s : ps_S} {Q : Option Value → ps_S → Prop} (h :
  ps_Cl d 227 [.ref 1131, .int ((22468 : Int32) + ((41 : Int32) * x1))] s (ps_rV (fun s1 =>
    ps_nd (pm_in x1 40) (((ps_a s1 1152 (Int32.toNatClampNeg x1)) ≠ 7 →
      ps_At (d + 1) 253 202 [(0, .ref 1131), (1, .int x1)] [] s1 Q) ∧
    ((ps_a s1 1152 (Int32.toNatClampNeg x1)) = 7 →
      ps_Cl d 227 [.ref 1131, .int x2] s1 (ps_rV (fun s2 =>
        ps_At (d + 1) 253 202 [(0, .ref 1131), (1, .int x1)] [] s2 Q))))))) : ps_At (d + 1) 253 174 [(0, .ref 1131), (1, .int x1), (2, .int x2)] [] s Q :=
  ps_wp_at (stops := [(174, [0, 1, 2]), (202, [0, 1])]) (n := 18) h rfl

theorem pg_253_202 {d : Nat} {x1 : Int32} {s : ps_S} {Q : Option Value → ps_S → Prop} (h :
  ps_nd (pm_in x1 40) (ps_Cl d 249 [.ref 1131, .int x1, .int (ps_a s 1153 (Int32.toNatClampNeg x1)), .int 0] s (ps_rV (fun s1 =>
    ps_nd (pm_in x1 40) (((ps_a s1 1152 (Int32.toNatClampNeg x1)) ≠ 3 →
      Q none s1) ∧
    ((ps_a s1 1152 (Int32.toNatClampNeg x1)) = 3 →
      ps_nd (pm_in x1 40) (ps_Cl d 249 [.ref 1131, .int x1, .int (ps_a s1 1154 (Int32.toNatClampNeg x1)), .int 0] s1 (ps_rV (fun s2 =>
        Q none s2))))))))) : ps_At (d + 1) 253 202 [(0, .ref 1131), (1, .int x1)] [] s Q :=
  ps_wp_at (stops := [(174, [0, 1, 2]), (202, [0, 1])]) (n := 26) h rfl

theorem ms_253_202 {x : Nat → Nat → Nat} {t : Int32} {d : Nat} {s0 : ps_S} {σ : mSig} {x1 : Int32} {Q : Option Value → ps_S → Prop} (k : ∀ (s' : ps_S), mJ x t s' → kp [1134, 1149] [34, 50, 51] s0 s' → (As σ (ps_a s' 1134) x1.toInt (ps_i s' 1131 51).toInt) → (OutB (ps_a s0 1134) (ps_a s' 1134) x1.toInt) → ((ps_i s0 1131 51).toInt ≤ (ps_i s' 1131 51).toInt) → ((ps_i s' 1131 51).toInt ≤ (ps_i s0 1131 51).toInt + 24) → (Res σ (ps_a s' 1149) (ps_i s' 1131 34).toInt (ps_i s' 1131 50).toInt) → Q none s') (s : ps_S) (J : mJ x t s) (K : kp [1134, 1149] [34, 50, 51] s0 s) (hS : Sg (ps_a s 1135) (ps_a s 1136) (ps_a s 1138) (ps_a s 1139) (ps_i s 1131 21).toInt σ) (hC : SC σ (ps_a s 1134) (ps_a s 1157) (ps_a s 1152) (ps_a s 1153) (ps_a s 1154) (ps_a s 1155) (ps_i s 1131 21).toInt x1.toInt) (hA : As σ (ps_a s 1134) x1.toInt (ps_i s 1131 51).toInt) (hO : OutB (ps_a s0 1134) (ps_a s 1134) x1.toInt) (i4_k : 0 ≤ x1.toInt) (i5_k : x1.toInt < 40) (i6_k : (ps_i s0 1131 51).toInt ≤ 100) (i7_k : (ps_i s 1131 51).toInt = (ps_i s0 1131 51).toInt) (i8_k : 3 ≤ (ps_a s 1152 (Int32.toNatClampNeg x1)).toInt) (i9_k : (ps_a s 1152 (Int32.toNatClampNeg x1)).toInt < 8) (hRs : Res σ (ps_a s 1149) (ps_i s 1131 34).toInt (ps_i s 1131 50).toInt) : ps_At (d + 4) 253 202 [(0, .ref 1131), (1, .int x1)] [] s Q := by
  have r1_k := mf_51 J
  have r2_k : 0 ≤ (ps_a s 1152 (Int32.toNatClampNeg x1)).toInt ∧ (ps_a s 1152 (Int32.toNatClampNeg x1)).toInt ≤ 18 := ma_1152 (i := x1) J (show 0 ≤ x1.toInt from by omega) (show x1.toInt < 40 from by omega)
  refine pg_253_202 (d := d + 3) ?_
  have q1_k := SC_l1 hC rfl ⟨by omega, by omega, by omega, by omega⟩
  have g0 := SC_g0 hC rfl
  refine ps_nd_i (show pm_in x1 40 = true from xgi (show 0 ≤ x1.toInt from by omega) (show x1.toInt < 40 from by omega)) ?_
  have r3_k : -1 ≤ (ps_a s 1153 (Int32.toNatClampNeg x1)).toInt ∧ (ps_a s 1153 (Int32.toNatClampNeg x1)).toInt ≤ 9999 := ma_1153 (i := x1) J (show 0 ≤ x1.toInt from by omega) (show x1.toInt < 40 from by omega)
  refine ms_249 J hA ((SC_p hC)) (show 0 ≤ x1.toInt from by omega) (show x1.toInt < 40 from by omega) (show 0 ≤ (ps_a s 1153 (Int32.toNatClampNeg x1)).toInt from by omega) (show (ps_a s 1153 (Int32.toNatClampNeg x1)).toInt < x1.toInt from by omega) (show (ps_i s 1131 51).toInt ≤ 800 from by omega) (fun s4 J4 K4 p4_0 p4_1 p4_2 p4_3 => ?_)
  have K5 := kpt K K4 rfl rfl
  have KC := K4
  have hS : Sg (ps_a s4 1135) (ps_a s4 1136) (ps_a s4 1138) (ps_a s4 1139) (ps_i s4 1131 21).toInt σ := by rw [show ps_a s4 1135 = ps_a s 1135 from (K4.2 1135 rfl).1, show ps_a s4 1136 = ps_a s 1136 from (K4.2 1136 rfl).1, show ps_a s4 1138 = ps_a s 1138 from (K4.2 1138 rfl).1, show ps_a s4 1139 = ps_a s 1139 from (K4.2 1139 rfl).1, show ps_i s4 1131 21 = ps_i s 1131 21 from kp_i K4 21 rfl]; exact hS
  have hRs : Res σ (ps_a s4 1149) (ps_i s4 1131 34).toInt (ps_i s4 1131 50).toInt := by rw [show ps_a s4 1149 = ps_a s 1149 from (K4.2 1149 rfl).1, show ps_i s4 1131 34 = ps_i s 1131 34 from kp_i K4 34 rfl, show ps_i s4 1131 50 = ps_i s 1131 50 from kp_i K4 50 rfl]; exact hRs
  have p4_2' : (ps_i s 1131 51).toInt ≤ (ps_i s4 1131 51).toInt := p4_2
  have r6_k := mf_51 J4
  have p4_3' : (ps_i s4 1131 51).toInt ≤ (ps_i s 1131 51).toInt + 12 := p4_3
  have hA : As σ (ps_a s4 1134) x1.toInt (ps_i s4 1131 51).toInt := p4_0
  have ho : _ := p4_1
  have hO := OutB_tr hO ho
  have hC : SC σ (ps_a s4 1134) (ps_a s4 1157) (ps_a s4 1152) (ps_a s4 1153) (ps_a s4 1154) (ps_a s4 1155) (ps_i s4 1131 21).toInt x1.toInt := by rw [show ps_a s4 1157 = ps_a s 1157 from (KC.2 1157 rfl).1, show ps_a s4 1152 = ps_a s 1152 from (KC.2 1152 rfl).1, show ps_a s4 1153 = ps_a s 1153 from (KC.2 1153 rfl).1, show ps_a s4 1154 = ps_a s 1154 from (KC.2 1154 rfl).1, show ps_a s4 1155 = ps_a s 1155 from (KC.2 1155 rfl).1, show ps_i s4 1131 21 = ps_i s 1131 21 from kp_i KC 21 rfl]; exact SC_out hC ho
  refine ps_nd_i (show pm_in x1 40 = true from xgi (show 0 ≤ x1.toInt from by omega) (show x1.toInt < 40 from by omega)) ?_
  have r7_k : 0 ≤ (ps_a s4 1152 (Int32.toNatClampNeg x1)).toInt ∧ (ps_a s4 1152 (Int32.toNatClampNeg x1)).toInt ≤ 18 := ma_1152 (i := x1) J4 (show 0 ≤ x1.toInt from by omega) (show x1.toInt < 40 from by omega)
  have u8 : (ps_a s4 1152 (Int32.toNatClampNeg x1)).toInt = (ps_a s 1152 (Int32.toNatClampNeg x1)).toInt := xeq (kp_a K4 1152 rfl _)
  refine And.intro (fun h9_k => ?_) (fun h9_k => ?_)
  · have f10_k : (ps_a s4 1152 (Int32.toNatClampNeg x1)).toInt ≠ (3 : Int) := xne h9_k
    exact k _ J4 K5 hA ((by first | exact hO | exact OutB_tr hO ho)) (show (ps_i s0 1131 51).toInt ≤ (ps_i s4 1131 51).toInt from by omega) (show (ps_i s4 1131 51).toInt ≤ (ps_i s0 1131 51).toInt + 24 from by omega) hRs
  · have f11_k : (ps_a s4 1152 (Int32.toNatClampNeg x1)).toInt = (3 : Int) := xeq h9_k
    refine ps_nd_i (show pm_in x1 40 = true from xgi (show 0 ≤ x1.toInt from by omega) (show x1.toInt < 40 from by omega)) ?_
    have r12_k : 0 ≤ (ps_a s4 1154 (Int32.toNatClampNeg x1)).toInt ∧ (ps_a s4 1154 (Int32.toNatClampNeg x1)).toInt ≤ 9999 := ma_1154 (i := x1) J4 (show 0 ≤ x1.toInt from by omega) (show x1.toInt < 40 from by omega)
    have u13 : (ps_a s4 1154 (Int32.toNatClampNeg x1)).toInt = (ps_a s 1154 (Int32.toNatClampNeg x1)).toInt := xeq (kp_a K4 1154 rfl _)
    have r14_k : 0 ≤ (ps_a s 1154 (Int32.toNatClampNeg x1)).toInt ∧ (ps_a s 1154 (Int32.toNatClampNeg x1)).toInt ≤ 9999 := ma_1154 (i := x1) J (show 0 ≤ x1.toInt from by omega) (show x1.toInt < 40 from by omega)
    have q2_k := SC_l2 hC rfl (Or.inl (by omega))
    refine ms_249 J4 hA ((SC_p hC)) (show 0 ≤ x1.toInt from by omega) (show x1.toInt < 40 from by omega) (show 0 ≤ (ps_a s4 1154 (Int32.toNatClampNeg x1)).toInt from by omega) (show (ps_a s4 1154 (Int32.toNatClampNeg x1)).toInt < x1.toInt from by omega) (show (ps_i s4 1131 51).toInt ≤ 800 from by omega) (fun s15 J15 K15 p15_0 p15_1 p15_2 p15_3 => ?_)
    have K16 := kpt K5 K15 rfl rfl
    have KC := K15
    have hS : Sg (ps_a s15 1135) (ps_a s15 1136) (ps_a s15 1138) (ps_a s15 1139) (ps_i s15 1131 21).toInt σ := by rw [show ps_a s15 1135 = ps_a s4 1135 from (K15.2 1135 rfl).1, show ps_a s15 1136 = ps_a s4 1136 from (K15.2 1136 rfl).1, show ps_a s15 1138 = ps_a s4 1138 from (K15.2 1138 rfl).1, show ps_a s15 1139 = ps_a s4 1139 from (K15.2 1139 rfl).1, show ps_i s15 1131 21 = ps_i s4 1131 21 from kp_i K15 21 rfl]; exact hS
    have hRs : Res σ (ps_a s15 1149) (ps_i s15 1131 34).toInt (ps_i s15 1131 50).toInt := by rw [show ps_a s15 1149 = ps_a s4 1149 from (K15.2 1149 rfl).1, show ps_i s15 1131 34 = ps_i s4 1131 34 from kp_i K15 34 rfl, show ps_i s15 1131 50 = ps_i s4 1131 50 from kp_i K15 50 rfl]; exact hRs
    have p15_2' : (ps_i s4 1131 51).toInt ≤ (ps_i s15 1131 51).toInt := p15_2
    have r17_k := mf_51 J15
    have p15_3' : (ps_i s15 1131 51).toInt ≤ (ps_i s4 1131 51).toInt + 12 := p15_3
    have hA : As σ (ps_a s15 1134) x1.toInt (ps_i s15 1131 51).toInt := p15_0
    have ho : _ := p15_1
    exact k _ J15 K16 hA ((by first | exact hO | exact OutB_tr hO ho)) (show (ps_i s0 1131 51).toInt ≤ (ps_i s15 1131 51).toInt from by omega) (show (ps_i s15 1131 51).toInt ≤ (ps_i s0 1131 51).toInt + 24 from by omega) hRs

theorem ms_253_174 {x : Nat → Nat → Nat} {t : Int32} {d : Nat} {s0 : ps_S} {σ : mSig} {x1 : Int32} {Q : Option Value → ps_S → Prop} (k : ∀ (s' : ps_S), mJ x t s' → kp [1134, 1149] [34, 50, 51] s0 s' → (As σ (ps_a s' 1134) x1.toInt (ps_i s' 1131 51).toInt) → (OutB (ps_a s0 1134) (ps_a s' 1134) x1.toInt) → ((ps_i s0 1131 51).toInt ≤ (ps_i s' 1131 51).toInt) → ((ps_i s' 1131 51).toInt ≤ (ps_i s0 1131 51).toInt + 24) → (Res σ (ps_a s' 1149) (ps_i s' 1131 34).toInt (ps_i s' 1131 50).toInt) → Q none s') (x2 : Int32) (s : ps_S) (J : mJ x t s) (K : kp [1134, 1149] [34, 50, 51] s0 s) (hS : Sg (ps_a s 1135) (ps_a s 1136) (ps_a s 1138) (ps_a s 1139) (ps_i s 1131 21).toInt σ) (hC : SC σ (ps_a s 1134) (ps_a s 1157) (ps_a s 1152) (ps_a s 1153) (ps_a s 1154) (ps_a s 1155) (ps_i s 1131 21).toInt x1.toInt) (hA : As σ (ps_a s 1134) x1.toInt (ps_i s 1131 51).toInt) (hO : OutB (ps_a s0 1134) (ps_a s 1134) x1.toInt) (i4_k : 0 ≤ x1.toInt) (i5_k : x1.toInt < 40) (i6_k : (ps_i s0 1131 51).toInt ≤ 100) (i7_k : (ps_i s 1131 51).toInt = (ps_i s0 1131 51).toInt) (i8_k : (ps_a s 1152 (Int32.toNatClampNeg x1)).toInt = 6 ∨ (ps_a s 1152 (Int32.toNatClampNeg x1)).toInt = 7) (i9_k : x2.toInt = 41 * (ps_a s 1153 (Int32.toNatClampNeg x1)).toInt) (i10_k : ∃ ml, Md (ps_a s 1149) (ps_i s 1131 34).toInt ml ∧ ml.length ≤ 50 ∧ (((ps_a s 1152 (Int32.toNatClampNeg x1)).toInt = 6 ∧ ∀ m : List Nat, ws σ m [true] → ws σ (ml ++ m) [true]) ∨ ((ps_a s 1152 (Int32.toNatClampNeg x1)).toInt = 7 ∧ ∀ m : List Nat, ws σ m [true, true] → ws σ (ml ++ m) [true]))) : ps_At (d + 4) 253 174 [(0, .ref 1131), (1, .int x1), (2, .int x2)] [] s Q := by
  have r1_k := mf_51 J
  have r2_k : 0 ≤ (ps_a s 1152 (Int32.toNatClampNeg x1)).toInt ∧ (ps_a s 1152 (Int32.toNatClampNeg x1)).toInt ≤ 18 := ma_1152 (i := x1) J (show 0 ≤ x1.toInt from by omega) (show x1.toInt < 40 from by omega)
  have r3_k : -1 ≤ (ps_a s 1153 (Int32.toNatClampNeg x1)).toInt ∧ (ps_a s 1153 (Int32.toNatClampNeg x1)).toInt ≤ 9999 := ma_1153 (i := x1) J (show 0 ≤ x1.toInt from by omega) (show x1.toInt < 40 from by omega)
  refine pg_253_174 (d := d + 3) ?_
  obtain ⟨ml, hml1, hml2, hml3⟩ := i10_k
  have a4_k : ((41 : Int32) * x1).toInt = (41 : Int) * x1.toInt := xIm (show -2147483648 ≤ (41 : Int) * x1.toInt from by omega) (show (41 : Int) * x1.toInt < 2147483648 from by omega)
  have a5_k : ((22468 : Int32) + ((41 : Int32) * x1)).toInt = (22468 : Int) + ((41 : Int32) * x1).toInt := xIa (show -2147483648 ≤ (22468 : Int) + ((41 : Int32) * x1).toInt from by omega) (show (22468 : Int) + ((41 : Int32) * x1).toInt < 2147483648 from by omega)
  obtain ⟨l, hl1, hl2⟩ := SC_f (j := ((22468 : Int32) + ((41 : Int32) * x1))) hC rfl (by omega) (by omega)
  have hlen := hl1.2.2.2.1
  have hA1 := SC_1i hC rfl (by omega)
  refine ms_227 J (hl1) (hml1) ((by omega)) (fun s6 J6 K6 p6_0 => ?_)
  have K7 := kpt K K6 rfl rfl
  have KC := K6
  have hS : Sg (ps_a s6 1135) (ps_a s6 1136) (ps_a s6 1138) (ps_a s6 1139) (ps_i s6 1131 21).toInt σ := by rw [show ps_a s6 1135 = ps_a s 1135 from (K6.2 1135 rfl).1, show ps_a s6 1136 = ps_a s 1136 from (K6.2 1136 rfl).1, show ps_a s6 1138 = ps_a s 1138 from (K6.2 1138 rfl).1, show ps_a s6 1139 = ps_a s 1139 from (K6.2 1139 rfl).1, show ps_i s6 1131 21 = ps_i s 1131 21 from kp_i K6 21 rfl]; exact hS
  have hC : SC σ (ps_a s6 1134) (ps_a s6 1157) (ps_a s6 1152) (ps_a s6 1153) (ps_a s6 1154) (ps_a s6 1155) (ps_i s6 1131 21).toInt x1.toInt := by rw [show ps_a s6 1134 = ps_a s 1134 from (K6.2 1134 rfl).1, show ps_a s6 1157 = ps_a s 1157 from (K6.2 1157 rfl).1, show ps_a s6 1152 = ps_a s 1152 from (K6.2 1152 rfl).1, show ps_a s6 1153 = ps_a s 1153 from (K6.2 1153 rfl).1, show ps_a s6 1154 = ps_a s 1154 from (K6.2 1154 rfl).1, show ps_a s6 1155 = ps_a s 1155 from (K6.2 1155 rfl).1, show ps_i s6 1131 21 = ps_i s 1131 21 from kp_i K6 21 rfl]; exact hC
  have hA : As σ (ps_a s6 1134) x1.toInt (ps_i s6 1131 51).toInt := by rw [show ps_a s6 1134 = ps_a s 1134 from (K6.2 1134 rfl).1, show ps_i s6 1131 51 = ps_i s 1131 51 from kp_i K6 51 rfl]; exact hA
  have hO : OutB (ps_a s0 1134) (ps_a s6 1134) x1.toInt := by rw [show ps_a s6 1134 = ps_a s 1134 from (K6.2 1134 rfl).1]; exact hO
  have hA1 : Fm σ (ps_a s6 1134) (41 * (ps_a s 1153 (Int32.toNatClampNeg x1)).toInt) := by rw [show ps_a s6 1134 = ps_a s 1134 from (K6.2 1134 rfl).1]; exact hA1
  have hM2 : Md (ps_a s6 1149) (ps_i s6 1131 34).toInt (ml ++ l) := p6_0
  refine ps_nd_i (show pm_in x1 40 = true from xgi (show 0 ≤ x1.toInt from by omega) (show x1.toInt < 40 from by omega)) ?_
  have r8_k : 0 ≤ (ps_a s6 1152 (Int32.toNatClampNeg x1)).toInt ∧ (ps_a s6 1152 (Int32.toNatClampNeg x1)).toInt ≤ 18 := ma_1152 (i := x1) J6 (show 0 ≤ x1.toInt from by omega) (show x1.toInt < 40 from by omega)
  have u9 : (ps_a s6 1152 (Int32.toNatClampNeg x1)).toInt = (ps_a s 1152 (Int32.toNatClampNeg x1)).toInt := xeq (kp_a K6 1152 rfl _)
  refine And.intro (fun h10_k => ?_) (fun h10_k => ?_)
  · have f11_k : (ps_a s6 1152 (Int32.toNatClampNeg x1)).toInt ≠ (7 : Int) := xne h10_k
    have r12_k := mf_51 J6
    have u13 : (ps_i s6 1131 51).toInt = (ps_i s 1131 51).toInt := xeq (kp_i K6 51 rfl)
    exact ms_253_202 (x1 := x1) (σ := σ) k   _ J6 K7 hS hC hA hO (show 0 ≤ x1.toInt from by omega) (show x1.toInt < 40 from by omega) (show (ps_i s0 1131 51).toInt ≤ 100 from by omega) (show (ps_i s6 1131 51).toInt = (ps_i s0 1131 51).toInt from by omega) (show 3 ≤ (ps_a s6 1152 (Int32.toNatClampNeg x1)).toInt from by omega) (show (ps_a s6 1152 (Int32.toNatClampNeg x1)).toInt < 8 from by omega) (⟨_, hM2, by simp only [List.length_append, List.length_cons, List.length_nil]; omega, Or.inl (by rcases hml3 with ⟨z1_k, z2_k⟩ | ⟨z1_k, z2_k⟩; exact z2_k l (wf_ws hl2); exact absurd z1_k (by omega))⟩)
  · have f14_k : (ps_a s6 1152 (Int32.toNatClampNeg x1)).toInt = (7 : Int) := xeq h10_k
    obtain ⟨la, hla1, hla2⟩ := id hA1
    have hlen2 := hla1.2.2.2.1
    refine ms_227 J6 ((by rw [show (x2).toInt = 41 * (ps_a s 1153 (Int32.toNatClampNeg x1)).toInt from by omega]; exact hla1)) (hM2) ((by simp only [List.length_append, List.length_cons, List.length_nil]; omega)) (fun s15 J15 K15 p15_0 => ?_)
    have K16 := kpt K7 K15 rfl rfl
    have KC := K15
    have hS : Sg (ps_a s15 1135) (ps_a s15 1136) (ps_a s15 1138) (ps_a s15 1139) (ps_i s15 1131 21).toInt σ := by rw [show ps_a s15 1135 = ps_a s6 1135 from (K15.2 1135 rfl).1, show ps_a s15 1136 = ps_a s6 1136 from (K15.2 1136 rfl).1, show ps_a s15 1138 = ps_a s6 1138 from (K15.2 1138 rfl).1, show ps_a s15 1139 = ps_a s6 1139 from (K15.2 1139 rfl).1, show ps_i s15 1131 21 = ps_i s6 1131 21 from kp_i K15 21 rfl]; exact hS
    have hC : SC σ (ps_a s15 1134) (ps_a s15 1157) (ps_a s15 1152) (ps_a s15 1153) (ps_a s15 1154) (ps_a s15 1155) (ps_i s15 1131 21).toInt x1.toInt := by rw [show ps_a s15 1134 = ps_a s6 1134 from (K15.2 1134 rfl).1, show ps_a s15 1157 = ps_a s6 1157 from (K15.2 1157 rfl).1, show ps_a s15 1152 = ps_a s6 1152 from (K15.2 1152 rfl).1, show ps_a s15 1153 = ps_a s6 1153 from (K15.2 1153 rfl).1, show ps_a s15 1154 = ps_a s6 1154 from (K15.2 1154 rfl).1, show ps_a s15 1155 = ps_a s6 1155 from (K15.2 1155 rfl).1, show ps_i s15 1131 21 = ps_i s6 1131 21 from kp_i K15 21 rfl]; exact hC
    have hA : As σ (ps_a s15 1134) x1.toInt (ps_i s15 1131 51).toInt := by rw [show ps_a s15 1134 = ps_a s6 1134 from (K15.2 1134 rfl).1, show ps_i s15 1131 51 = ps_i s6 1131 51 from kp_i K15 51 rfl]; exact hA
    have hO : OutB (ps_a s0 1134) (ps_a s15 1134) x1.toInt := by rw [show ps_a s15 1134 = ps_a s6 1134 from (K15.2 1134 rfl).1]; exact hO
    have hA1 : Fm σ (ps_a s15 1134) (41 * (ps_a s 1153 (Int32.toNatClampNeg x1)).toInt) := by rw [show ps_a s15 1134 = ps_a s6 1134 from (K15.2 1134 rfl).1]; exact hA1
    have hM3 : Md (ps_a s15 1149) (ps_i s15 1131 34).toInt ((ml ++ l) ++ la) := p15_0
    have r17_k := mf_51 J15
    have u18 : (ps_i s15 1131 51).toInt = (ps_i s6 1131 51).toInt := xeq (kp_i K15 51 rfl)
    have r19_k := mf_51 J6
    have u20 : (ps_i s6 1131 51).toInt = (ps_i s 1131 51).toInt := xeq (kp_i K6 51 rfl)
    have r21_k : 0 ≤ (ps_a s15 1152 (Int32.toNatClampNeg x1)).toInt ∧ (ps_a s15 1152 (Int32.toNatClampNeg x1)).toInt ≤ 18 := ma_1152 (i := x1) J15 (show 0 ≤ x1.toInt from by omega) (show x1.toInt < 40 from by omega)
    have u22 : (ps_a s15 1152 (Int32.toNatClampNeg x1)).toInt = (ps_a s6 1152 (Int32.toNatClampNeg x1)).toInt := xeq (kp_a K15 1152 rfl _)
    exact ms_253_202 (x1 := x1) (σ := σ) k   _ J15 K16 hS hC hA hO (show 0 ≤ x1.toInt from by omega) (show x1.toInt < 40 from by omega) (show (ps_i s0 1131 51).toInt ≤ 100 from by omega) (show (ps_i s15 1131 51).toInt = (ps_i s0 1131 51).toInt from by omega) (show 3 ≤ (ps_a s15 1152 (Int32.toNatClampNeg x1)).toInt from by omega) (show (ps_a s15 1152 (Int32.toNatClampNeg x1)).toInt < 8 from by omega) (⟨_, hM3, by simp only [List.length_append, List.length_cons, List.length_nil]; omega, Or.inl (by rcases hml3 with ⟨z1_k, z2_k⟩ | ⟨z1_k, z2_k⟩; exact absurd z1_k (by omega); rw [List.append_assoc]; exact z2_k (l ++ la) (ws_app (W1 := [true]) (W2 := [true]) (wf_ws hl2) (wf_ws hla2)))⟩)

theorem ms_253 {x : Nat → Nat → Nat} {t : Int32} {s : ps_S} {d : Nat} {x1 : Int32} {f : ps_S → Prop} (J : mJ x t s) {σ : mSig} (hS : Sg (ps_a s 1135) (ps_a s 1136) (ps_a s 1138) (ps_a s 1139) (ps_i s 1131 21).toInt σ) (hC : SC σ (ps_a s 1134) (ps_a s 1157) (ps_a s 1152) (ps_a s 1153) (ps_a s 1154) (ps_a s 1155) (ps_i s 1131 21).toInt x1.toInt) (hA : As σ (ps_a s 1134) x1.toInt (ps_i s 1131 51).toInt) (hM : Md (ps_a s 1149) (ps_i s 1131 34).toInt ([] : List Nat)) (q4_k : 0 ≤ x1.toInt) (q5_k : x1.toInt < 40) (q6_k : (ps_i s 1131 51).toInt ≤ 100) (q7_k : (ps_a s 1152 (Int32.toNatClampNeg x1)).toInt < 8) (k : ∀ (s' : ps_S), mJ x t s' → kp [1134, 1149] [34, 50, 51] s s' → (As σ (ps_a s' 1134) x1.toInt (ps_i s' 1131 51).toInt) → (OutB (ps_a s 1134) (ps_a s' 1134) x1.toInt) → ((ps_i s 1131 51).toInt ≤ (ps_i s' 1131 51).toInt) → ((ps_i s' 1131 51).toInt ≤ (ps_i s 1131 51).toInt + 24) → (Res σ (ps_a s' 1149) (ps_i s' 1131 34).toInt (ps_i s' 1131 50).toInt) → f s') : ps_Cl (d + 4) 253 [.ref 1131, .int x1] s (ps_rV f) := by
  have r1_k := mf_51 J
  have r2_k : 0 ≤ (ps_a s 1152 (Int32.toNatClampNeg x1)).toInt ∧ (ps_a s 1152 (Int32.toNatClampNeg x1)).toInt ≤ 18 := ma_1152 (i := x1) J (show 0 ≤ x1.toInt from by omega) (show x1.toInt < 40 from by omega)
  have K : kp [1134, 1149] [34, 50, 51] s s := kp_refl
  refine pg_253_0 (d := d + 3) ?_
  have hO : OutB (ps_a s 1134) (ps_a s 1134) x1.toInt := OutB_refl
  have h34_k : (ps_i s 1131 34).toInt = 0 := hM.1
  refine pg_244_0 ?_
  refine ps_nd_i (show pm_in x1 40 = true from xgi (show 0 ≤ x1.toInt from by omega) (show x1.toInt < 40 from by omega)) ?_
  have r3_k : -1 ≤ (ps_a s 1153 (Int32.toNatClampNeg x1)).toInt ∧ (ps_a s 1153 (Int32.toNatClampNeg x1)).toInt ≤ 9999 := ma_1153 (i := x1) J (show 0 ≤ x1.toInt from by omega) (show x1.toInt < 40 from by omega)
  refine pg_242_0 ?_
  have a4_k : ((41 : Int32) * (ps_a s 1153 (Int32.toNatClampNeg x1))).toInt = (41 : Int) * (ps_a s 1153 (Int32.toNatClampNeg x1)).toInt := xIm (show -2147483648 ≤ (41 : Int) * (ps_a s 1153 (Int32.toNatClampNeg x1)).toInt from by omega) (show (41 : Int) * (ps_a s 1153 (Int32.toNatClampNeg x1)).toInt < 2147483648 from by omega)
  have a5_k : ((0 : Int32) + ((41 : Int32) * (ps_a s 1153 (Int32.toNatClampNeg x1)))).toInt = (0 : Int) + ((41 : Int32) * (ps_a s 1153 (Int32.toNatClampNeg x1))).toInt := xIa (show -2147483648 ≤ (0 : Int) + ((41 : Int32) * (ps_a s 1153 (Int32.toNatClampNeg x1))).toInt from by omega) (show (0 : Int) + ((41 : Int32) * (ps_a s 1153 (Int32.toNatClampNeg x1))).toInt < 2147483648 from by omega)
  refine ps_nd_i (show pm_in x1 40 = true from xgi (show 0 ≤ x1.toInt from by omega) (show x1.toInt < 40 from by omega)) ?_
  refine And.intro (fun h6_k => ?_) (fun h6_k => ?_)
  · have f7_k : (ps_a s 1152 (Int32.toNatClampNeg x1)).toInt = (0 : Int) := xeq h6_k
    have a8_k : ((41 : Int32) * x1).toInt = (41 : Int) * x1.toInt := xIm (show -2147483648 ≤ (41 : Int) * x1.toInt from by omega) (show (41 : Int) * x1.toInt < 2147483648 from by omega)
    have a9_k : ((22468 : Int32) + ((41 : Int32) * x1)).toInt = (22468 : Int) + ((41 : Int32) * x1).toInt := xIa (show -2147483648 ≤ (22468 : Int) + ((41 : Int32) * x1).toInt from by omega) (show (22468 : Int) + ((41 : Int32) * x1).toInt < 2147483648 from by omega)
    have hF0 := SC_f (j := ((22468 : Int32) + ((41 : Int32) * x1))) hC rfl (by omega) (by omega)
    obtain ⟨l, hl1, hl2⟩ := id hF0
    have hlen := hl1.2.2.2.1
    refine ms_227 J (hl1) (hM) ((by simp only [List.length_append, List.length_cons, List.length_nil]; omega)) (fun s10 J10 K10 p10_0 => ?_)
    have K11 := kpt K K10 rfl rfl
    have KC := K10
    have hS : Sg (ps_a s10 1135) (ps_a s10 1136) (ps_a s10 1138) (ps_a s10 1139) (ps_i s10 1131 21).toInt σ := by rw [show ps_a s10 1135 = ps_a s 1135 from (K10.2 1135 rfl).1, show ps_a s10 1136 = ps_a s 1136 from (K10.2 1136 rfl).1, show ps_a s10 1138 = ps_a s 1138 from (K10.2 1138 rfl).1, show ps_a s10 1139 = ps_a s 1139 from (K10.2 1139 rfl).1, show ps_i s10 1131 21 = ps_i s 1131 21 from kp_i K10 21 rfl]; exact hS
    have hC : SC σ (ps_a s10 1134) (ps_a s10 1157) (ps_a s10 1152) (ps_a s10 1153) (ps_a s10 1154) (ps_a s10 1155) (ps_i s10 1131 21).toInt x1.toInt := by rw [show ps_a s10 1134 = ps_a s 1134 from (K10.2 1134 rfl).1, show ps_a s10 1157 = ps_a s 1157 from (K10.2 1157 rfl).1, show ps_a s10 1152 = ps_a s 1152 from (K10.2 1152 rfl).1, show ps_a s10 1153 = ps_a s 1153 from (K10.2 1153 rfl).1, show ps_a s10 1154 = ps_a s 1154 from (K10.2 1154 rfl).1, show ps_a s10 1155 = ps_a s 1155 from (K10.2 1155 rfl).1, show ps_i s10 1131 21 = ps_i s 1131 21 from kp_i K10 21 rfl]; exact hC
    have hA : As σ (ps_a s10 1134) x1.toInt (ps_i s10 1131 51).toInt := by rw [show ps_a s10 1134 = ps_a s 1134 from (K10.2 1134 rfl).1, show ps_i s10 1131 51 = ps_i s 1131 51 from kp_i K10 51 rfl]; exact hA
    have hO : OutB (ps_a s 1134) (ps_a s10 1134) x1.toInt := by rw [show ps_a s10 1134 = ps_a s 1134 from (K10.2 1134 rfl).1]; exact hO
    have hF0 : Fm σ (ps_a s10 1134) (((22468 : Int32) + ((41 : Int32) * x1)).toInt) := by rw [show ps_a s10 1134 = ps_a s 1134 from (K10.2 1134 rfl).1]; exact hF0
    have hM1 : Md (ps_a s10 1149) (ps_i s10 1131 34).toInt ([] ++ l) := p10_0
    have r12_k := mf_51 J10
    have u13 : (ps_i s10 1131 51).toInt = (ps_i s 1131 51).toInt := xeq (kp_i K10 51 rfl)
    refine ms_248 J10 hA (hF0) (show 0 ≤ x1.toInt from by omega) (show x1.toInt < 40 from by omega) (show ((22468 : Int32) + ((41 : Int32) * x1)).toInt + 41 ≤ 1640 + 492 * x1.toInt ∨ 1640 + 492 * x1.toInt + 492 ≤ ((22468 : Int32) + ((41 : Int32) * x1)).toInt from by omega) (show (ps_i s10 1131 51).toInt ≤ 900 from by omega) (fun s14 J14 K14 p14_0 p14_1 p14_2 p14_3 => ?_)
    have K15 := kpt K11 K14 rfl rfl
    have KC := K14
    have hS : Sg (ps_a s14 1135) (ps_a s14 1136) (ps_a s14 1138) (ps_a s14 1139) (ps_i s14 1131 21).toInt σ := by rw [show ps_a s14 1135 = ps_a s10 1135 from (K14.2 1135 rfl).1, show ps_a s14 1136 = ps_a s10 1136 from (K14.2 1136 rfl).1, show ps_a s14 1138 = ps_a s10 1138 from (K14.2 1138 rfl).1, show ps_a s14 1139 = ps_a s10 1139 from (K14.2 1139 rfl).1, show ps_i s14 1131 21 = ps_i s10 1131 21 from kp_i K14 21 rfl]; exact hS
    have hM1 : Md (ps_a s14 1149) (ps_i s14 1131 34).toInt ([] ++ l) := by rw [show ps_a s14 1149 = ps_a s10 1149 from (K14.2 1149 rfl).1, show ps_i s14 1131 34 = ps_i s10 1131 34 from kp_i K14 34 rfl]; exact hM1
    have p14_2' : (ps_i s10 1131 51).toInt ≤ (ps_i s14 1131 51).toInt := p14_2
    have r16_k := mf_51 J14
    have p14_3' : (ps_i s14 1131 51).toInt ≤ (ps_i s10 1131 51).toInt + 1 := p14_3
    have hA : As σ (ps_a s14 1134) x1.toInt (ps_i s14 1131 51).toInt := p14_0
    have ho : _ := p14_1
    have hO := OutB_tr hO ho
    exact k _ J14 K15 hA (hO) (show (ps_i s 1131 51).toInt ≤ (ps_i s14 1131 51).toInt from by omega) (show (ps_i s14 1131 51).toInt ≤ (ps_i s 1131 51).toInt + 24 from by omega) (⟨_, hM1, by simp only [List.length_append, List.length_cons, List.length_nil]; omega, Or.inl (wf_ws hl2)⟩)
  have f17_k : (ps_a s 1152 (Int32.toNatClampNeg x1)).toInt ≠ (0 : Int) := xne h6_k
  refine And.intro (fun h18_k => ?_) (fun h18_k => ?_)
  · have f19_k : (ps_a s 1152 (Int32.toNatClampNeg x1)).toInt = (1 : Int) := xeq h18_k
    have r20_k := mf_21 J
    have a21_k : ((8 : Int32) * (ps_i s 1131 21)).toInt = (8 : Int) * (ps_i s 1131 21).toInt := xIm (show -2147483648 ≤ (8 : Int) * (ps_i s 1131 21).toInt from by omega) (show (8 : Int) * (ps_i s 1131 21).toInt < 2147483648 from by omega)
    refine ps_nd_i (show pm_in x1 40 = true from xgi (show 0 ≤ x1.toInt from by omega) (show x1.toInt < 40 from by omega)) ?_
    have a22_k : (((8 : Int32) * (ps_i s 1131 21)) + (ps_a s 1153 (Int32.toNatClampNeg x1))).toInt = ((8 : Int32) * (ps_i s 1131 21)).toInt + (ps_a s 1153 (Int32.toNatClampNeg x1)).toInt := xIa (show -2147483648 ≤ ((8 : Int32) * (ps_i s 1131 21)).toInt + (ps_a s 1153 (Int32.toNatClampNeg x1)).toInt from by omega) (show ((8 : Int32) * (ps_i s 1131 21)).toInt + (ps_a s 1153 (Int32.toNatClampNeg x1)).toInt < 2147483648 from by omega)
    have a23_k : ((41 : Int32) * (((8 : Int32) * (ps_i s 1131 21)) + (ps_a s 1153 (Int32.toNatClampNeg x1)))).toInt = (41 : Int) * (((8 : Int32) * (ps_i s 1131 21)) + (ps_a s 1153 (Int32.toNatClampNeg x1))).toInt := xIm (show -2147483648 ≤ (41 : Int) * (((8 : Int32) * (ps_i s 1131 21)) + (ps_a s 1153 (Int32.toNatClampNeg x1))).toInt from by omega) (show (41 : Int) * (((8 : Int32) * (ps_i s 1131 21)) + (ps_a s 1153 (Int32.toNatClampNeg x1))).toInt < 2147483648 from by omega)
    have a24_k : ((21812 : Int32) + ((41 : Int32) * (((8 : Int32) * (ps_i s 1131 21)) + (ps_a s 1153 (Int32.toNatClampNeg x1))))).toInt = (21812 : Int) + ((41 : Int32) * (((8 : Int32) * (ps_i s 1131 21)) + (ps_a s 1153 (Int32.toNatClampNeg x1)))).toInt := xIa (show -2147483648 ≤ (21812 : Int) + ((41 : Int32) * (((8 : Int32) * (ps_i s 1131 21)) + (ps_a s 1153 (Int32.toNatClampNeg x1)))).toInt from by omega) (show (21812 : Int) + ((41 : Int32) * (((8 : Int32) * (ps_i s 1131 21)) + (ps_a s 1153 (Int32.toNatClampNeg x1)))).toInt < 2147483648 from by omega)
    obtain ⟨l, hl1, hl2⟩ := SC_ax (j := ((21812 : Int32) + ((41 : Int32) * (((8 : Int32) * (ps_i s 1131 21)) + (ps_a s 1153 (Int32.toNatClampNeg x1)))))) hC rfl (by omega) (by omega)
    have hlen := hl1.2.2.2.1
    refine ms_227 J (hl1) (hM) ((by simp only [List.length_append, List.length_cons, List.length_nil]; omega)) (fun s25 J25 K25 p25_0 => ?_)
    have K26 := kpt K K25 rfl rfl
    have KC := K25
    have hS : Sg (ps_a s25 1135) (ps_a s25 1136) (ps_a s25 1138) (ps_a s25 1139) (ps_i s25 1131 21).toInt σ := by rw [show ps_a s25 1135 = ps_a s 1135 from (K25.2 1135 rfl).1, show ps_a s25 1136 = ps_a s 1136 from (K25.2 1136 rfl).1, show ps_a s25 1138 = ps_a s 1138 from (K25.2 1138 rfl).1, show ps_a s25 1139 = ps_a s 1139 from (K25.2 1139 rfl).1, show ps_i s25 1131 21 = ps_i s 1131 21 from kp_i K25 21 rfl]; exact hS
    have hC : SC σ (ps_a s25 1134) (ps_a s25 1157) (ps_a s25 1152) (ps_a s25 1153) (ps_a s25 1154) (ps_a s25 1155) (ps_i s25 1131 21).toInt x1.toInt := by rw [show ps_a s25 1134 = ps_a s 1134 from (K25.2 1134 rfl).1, show ps_a s25 1157 = ps_a s 1157 from (K25.2 1157 rfl).1, show ps_a s25 1152 = ps_a s 1152 from (K25.2 1152 rfl).1, show ps_a s25 1153 = ps_a s 1153 from (K25.2 1153 rfl).1, show ps_a s25 1154 = ps_a s 1154 from (K25.2 1154 rfl).1, show ps_a s25 1155 = ps_a s 1155 from (K25.2 1155 rfl).1, show ps_i s25 1131 21 = ps_i s 1131 21 from kp_i K25 21 rfl]; exact hC
    have hA : As σ (ps_a s25 1134) x1.toInt (ps_i s25 1131 51).toInt := by rw [show ps_a s25 1134 = ps_a s 1134 from (K25.2 1134 rfl).1, show ps_i s25 1131 51 = ps_i s 1131 51 from kp_i K25 51 rfl]; exact hA
    have hO : OutB (ps_a s 1134) (ps_a s25 1134) x1.toInt := by rw [show ps_a s25 1134 = ps_a s 1134 from (K25.2 1134 rfl).1]; exact hO
    have hM1 : Md (ps_a s25 1149) (ps_i s25 1131 34).toInt ([] ++ l) := p25_0
    have r27_k := mf_51 J25
    have u28 : (ps_i s25 1131 51).toInt = (ps_i s 1131 51).toInt := xeq (kp_i K25 51 rfl)
    exact k _ J25 K26 hA hO (show (ps_i s 1131 51).toInt ≤ (ps_i s25 1131 51).toInt from by omega) (show (ps_i s25 1131 51).toInt ≤ (ps_i s 1131 51).toInt + 24 from by omega) (⟨_, hM1, by simp only [List.length_append, List.length_cons, List.length_nil]; omega, Or.inl (wf_ws hl2)⟩)
  have f29_k : (ps_a s 1152 (Int32.toNatClampNeg x1)).toInt ≠ (1 : Int) := xne h18_k
  refine And.intro (fun h30_k => ?_) (fun h30_k => ?_)
  · have f31_k : (ps_a s 1152 (Int32.toNatClampNeg x1)).toInt = (2 : Int) := xeq h30_k
    refine ps_nd_i (show pm_in x1 40 = true from xgi (show 0 ≤ x1.toInt from by omega) (show x1.toInt < 40 from by omega)) ?_
    have a32_k : ((21320 : Int32) + ((41 : Int32) * (ps_a s 1153 (Int32.toNatClampNeg x1)))).toInt = (21320 : Int) + ((41 : Int32) * (ps_a s 1153 (Int32.toNatClampNeg x1))).toInt := xIa (show -2147483648 ≤ (21320 : Int) + ((41 : Int32) * (ps_a s 1153 (Int32.toNatClampNeg x1))).toInt from by omega) (show (21320 : Int) + ((41 : Int32) * (ps_a s 1153 (Int32.toNatClampNeg x1))).toInt < 2147483648 from by omega)
    obtain ⟨l, hl1, hl2⟩ := SC_th (j := ((21320 : Int32) + ((41 : Int32) * (ps_a s 1153 (Int32.toNatClampNeg x1))))) hC rfl (by omega) (by omega)
    have hlen := hl1.2.2.2.1
    refine ms_227 J (hl1) (hM) ((by simp only [List.length_append, List.length_cons, List.length_nil]; omega)) (fun s33 J33 K33 p33_0 => ?_)
    have K34 := kpt K K33 rfl rfl
    have KC := K33
    have hS : Sg (ps_a s33 1135) (ps_a s33 1136) (ps_a s33 1138) (ps_a s33 1139) (ps_i s33 1131 21).toInt σ := by rw [show ps_a s33 1135 = ps_a s 1135 from (K33.2 1135 rfl).1, show ps_a s33 1136 = ps_a s 1136 from (K33.2 1136 rfl).1, show ps_a s33 1138 = ps_a s 1138 from (K33.2 1138 rfl).1, show ps_a s33 1139 = ps_a s 1139 from (K33.2 1139 rfl).1, show ps_i s33 1131 21 = ps_i s 1131 21 from kp_i K33 21 rfl]; exact hS
    have hC : SC σ (ps_a s33 1134) (ps_a s33 1157) (ps_a s33 1152) (ps_a s33 1153) (ps_a s33 1154) (ps_a s33 1155) (ps_i s33 1131 21).toInt x1.toInt := by rw [show ps_a s33 1134 = ps_a s 1134 from (K33.2 1134 rfl).1, show ps_a s33 1157 = ps_a s 1157 from (K33.2 1157 rfl).1, show ps_a s33 1152 = ps_a s 1152 from (K33.2 1152 rfl).1, show ps_a s33 1153 = ps_a s 1153 from (K33.2 1153 rfl).1, show ps_a s33 1154 = ps_a s 1154 from (K33.2 1154 rfl).1, show ps_a s33 1155 = ps_a s 1155 from (K33.2 1155 rfl).1, show ps_i s33 1131 21 = ps_i s 1131 21 from kp_i K33 21 rfl]; exact hC
    have hA : As σ (ps_a s33 1134) x1.toInt (ps_i s33 1131 51).toInt := by rw [show ps_a s33 1134 = ps_a s 1134 from (K33.2 1134 rfl).1, show ps_i s33 1131 51 = ps_i s 1131 51 from kp_i K33 51 rfl]; exact hA
    have hO : OutB (ps_a s 1134) (ps_a s33 1134) x1.toInt := by rw [show ps_a s33 1134 = ps_a s 1134 from (K33.2 1134 rfl).1]; exact hO
    have hM1 : Md (ps_a s33 1149) (ps_i s33 1131 34).toInt ([] ++ l) := p33_0
    have r35_k := mf_51 J33
    have u36 : (ps_i s33 1131 51).toInt = (ps_i s 1131 51).toInt := xeq (kp_i K33 51 rfl)
    exact k _ J33 K34 hA hO (show (ps_i s 1131 51).toInt ≤ (ps_i s33 1131 51).toInt from by omega) (show (ps_i s33 1131 51).toInt ≤ (ps_i s 1131 51).toInt + 24 from by omega) (⟨_, hM1, by simp only [List.length_append, List.length_cons, List.length_nil]; omega, Or.inl (wf_ws hl2)⟩)
  have f37_k : (ps_a s 1152 (Int32.toNatClampNeg x1)).toInt ≠ (2 : Int) := xne h30_k
  refine And.intro (fun h38_k => ?_) (fun h38_k => ?_)
  · have f39_k : (ps_a s 1152 (Int32.toNatClampNeg x1)).toInt = (3 : Int) := xeq h38_k
    refine pg_225_0 ?_
    have r40_k := mf_34 J
    refine And.intro (fun h41_k => ?_) (fun h41_k => ?_)
    · have f42_k : (260 : Int) ≤ (ps_i s 1131 34).toInt := xle h41_k
      have a43_k : ((ps_i s 1131 34) + 1).toInt = (ps_i s 1131 34).toInt + (1 : Int) := xIa (show -2147483648 ≤ (ps_i s 1131 34).toInt + (1 : Int) from by omega) (show (ps_i s 1131 34).toInt + (1 : Int) < 2147483648 from by omega)
      have J44 := mwi_34 (v := ((ps_i s 1131 34) + 1)) J (show 0 ≤ ((ps_i s 1131 34) + 1).toInt from by omega) (show ((ps_i s 1131 34) + 1).toInt ≤ 100000 from by omega)
      have K45 := kpi K (q := 34) (v := ((ps_i s 1131 34) + 1)) rfl
      have hM1 : Md (ps_a (ps_ui s 1131 34 ((ps_i s 1131 34) + 1)) 1149) (ps_i (ps_ui s 1131 34 ((ps_i s 1131 34) + 1)) 1131 34).toInt ([] ++ [1]) := by first | exact Md_make hM rfl (by decide) | exact Md_make' hM (by decide) (by omega)
      have hB := SC_2i hC rfl (by omega)
      obtain ⟨l, hl1, hl2⟩ := SC_1i hC rfl (by omega)
      have hlen := hl1.2.2.2.1
      refine ms_227 J44 ((by rw [show (((0 : Int32) + ((41 : Int32) * (ps_a s 1153 (Int32.toNatClampNeg x1))))).toInt = 41 * (ps_a s 1153 (Int32.toNatClampNeg x1)).toInt from by omega]; exact hl1)) (hM1) ((by simp only [List.length_append, List.length_cons, List.length_nil]; omega)) (fun s46 J46 K46 p46_0 => ?_)
      have K47 := kpt K45 K46 rfl rfl
      have KC := K46
      have hS : Sg (ps_a s46 1135) (ps_a s46 1136) (ps_a s46 1138) (ps_a s46 1139) (ps_i s46 1131 21).toInt σ := by rw [show ps_a s46 1135 = ps_a (ps_ui s 1131 34 ((ps_i s 1131 34) + 1)) 1135 from (K46.2 1135 rfl).1, show ps_a s46 1136 = ps_a (ps_ui s 1131 34 ((ps_i s 1131 34) + 1)) 1136 from (K46.2 1136 rfl).1, show ps_a s46 1138 = ps_a (ps_ui s 1131 34 ((ps_i s 1131 34) + 1)) 1138 from (K46.2 1138 rfl).1, show ps_a s46 1139 = ps_a (ps_ui s 1131 34 ((ps_i s 1131 34) + 1)) 1139 from (K46.2 1139 rfl).1, show ps_i s46 1131 21 = ps_i (ps_ui s 1131 34 ((ps_i s 1131 34) + 1)) 1131 21 from kp_i K46 21 rfl]; exact hS
      have hC : SC σ (ps_a s46 1134) (ps_a s46 1157) (ps_a s46 1152) (ps_a s46 1153) (ps_a s46 1154) (ps_a s46 1155) (ps_i s46 1131 21).toInt x1.toInt := by rw [show ps_a s46 1134 = ps_a (ps_ui s 1131 34 ((ps_i s 1131 34) + 1)) 1134 from (K46.2 1134 rfl).1, show ps_a s46 1157 = ps_a (ps_ui s 1131 34 ((ps_i s 1131 34) + 1)) 1157 from (K46.2 1157 rfl).1, show ps_a s46 1152 = ps_a (ps_ui s 1131 34 ((ps_i s 1131 34) + 1)) 1152 from (K46.2 1152 rfl).1, show ps_a s46 1153 = ps_a (ps_ui s 1131 34 ((ps_i s 1131 34) + 1)) 1153 from (K46.2 1153 rfl).1, show ps_a s46 1154 = ps_a (ps_ui s 1131 34 ((ps_i s 1131 34) + 1)) 1154 from (K46.2 1154 rfl).1, show ps_a s46 1155 = ps_a (ps_ui s 1131 34 ((ps_i s 1131 34) + 1)) 1155 from (K46.2 1155 rfl).1, show ps_i s46 1131 21 = ps_i (ps_ui s 1131 34 ((ps_i s 1131 34) + 1)) 1131 21 from kp_i K46 21 rfl]; exact hC
      have hA : As σ (ps_a s46 1134) x1.toInt (ps_i s46 1131 51).toInt := by rw [show ps_a s46 1134 = ps_a (ps_ui s 1131 34 ((ps_i s 1131 34) + 1)) 1134 from (K46.2 1134 rfl).1, show ps_i s46 1131 51 = ps_i (ps_ui s 1131 34 ((ps_i s 1131 34) + 1)) 1131 51 from kp_i K46 51 rfl]; exact hA
      have hO : OutB (ps_a s 1134) (ps_a s46 1134) x1.toInt := by rw [show ps_a s46 1134 = ps_a (ps_ui s 1131 34 ((ps_i s 1131 34) + 1)) 1134 from (K46.2 1134 rfl).1]; exact hO
      have hB : Fm σ (ps_a s46 1134) (41 * (ps_a s 1154 (Int32.toNatClampNeg x1)).toInt) := by rw [show ps_a s46 1134 = ps_a (ps_ui s 1131 34 ((ps_i s 1131 34) + 1)) 1134 from (K46.2 1134 rfl).1]; exact hB
      have hM2 : Md (ps_a s46 1149) (ps_i s46 1131 34).toInt (([] ++ [1]) ++ l) := p46_0
      refine pg_245_0 ?_
      refine ps_nd_i (show pm_in x1 40 = true from xgi (show 0 ≤ x1.toInt from by omega) (show x1.toInt < 40 from by omega)) ?_
      have r48_k : 0 ≤ (ps_a s46 1154 (Int32.toNatClampNeg x1)).toInt ∧ (ps_a s46 1154 (Int32.toNatClampNeg x1)).toInt ≤ 9999 := ma_1154 (i := x1) J46 (show 0 ≤ x1.toInt from by omega) (show x1.toInt < 40 from by omega)
      have u49 : (ps_a s46 1154 (Int32.toNatClampNeg x1)).toInt = (ps_a s 1154 (Int32.toNatClampNeg x1)).toInt := xeq (kp_a K46 1154 rfl _)
      have r50_k : 0 ≤ (ps_a s 1154 (Int32.toNatClampNeg x1)).toInt ∧ (ps_a s 1154 (Int32.toNatClampNeg x1)).toInt ≤ 9999 := ma_1154 (i := x1) J (show 0 ≤ x1.toInt from by omega) (show x1.toInt < 40 from by omega)
      refine pg_242_0 ?_
      have a51_k : ((41 : Int32) * (ps_a s46 1154 (Int32.toNatClampNeg x1))).toInt = (41 : Int) * (ps_a s46 1154 (Int32.toNatClampNeg x1)).toInt := xIm (show -2147483648 ≤ (41 : Int) * (ps_a s46 1154 (Int32.toNatClampNeg x1)).toInt from by omega) (show (41 : Int) * (ps_a s46 1154 (Int32.toNatClampNeg x1)).toInt < 2147483648 from by omega)
      have a52_k : ((0 : Int32) + ((41 : Int32) * (ps_a s46 1154 (Int32.toNatClampNeg x1)))).toInt = (0 : Int) + ((41 : Int32) * (ps_a s46 1154 (Int32.toNatClampNeg x1))).toInt := xIa (show -2147483648 ≤ (0 : Int) + ((41 : Int32) * (ps_a s46 1154 (Int32.toNatClampNeg x1))).toInt from by omega) (show (0 : Int) + ((41 : Int32) * (ps_a s46 1154 (Int32.toNatClampNeg x1))).toInt < 2147483648 from by omega)
      obtain ⟨l2, hl3, hl4⟩ := id hB
      have hlen2 := hl3.2.2.2.1
      refine ms_227 J46 ((by rw [show (((0 : Int32) + ((41 : Int32) * (ps_a s46 1154 (Int32.toNatClampNeg x1))))).toInt = 41 * (ps_a s 1154 (Int32.toNatClampNeg x1)).toInt from by omega]; exact hl3)) (hM2) ((by simp only [List.length_append, List.length_cons, List.length_nil]; omega)) (fun s53 J53 K53 p53_0 => ?_)
      have K54 := kpt K47 K53 rfl rfl
      have KC := K53
      have hS : Sg (ps_a s53 1135) (ps_a s53 1136) (ps_a s53 1138) (ps_a s53 1139) (ps_i s53 1131 21).toInt σ := by rw [show ps_a s53 1135 = ps_a s46 1135 from (K53.2 1135 rfl).1, show ps_a s53 1136 = ps_a s46 1136 from (K53.2 1136 rfl).1, show ps_a s53 1138 = ps_a s46 1138 from (K53.2 1138 rfl).1, show ps_a s53 1139 = ps_a s46 1139 from (K53.2 1139 rfl).1, show ps_i s53 1131 21 = ps_i s46 1131 21 from kp_i K53 21 rfl]; exact hS
      have hC : SC σ (ps_a s53 1134) (ps_a s53 1157) (ps_a s53 1152) (ps_a s53 1153) (ps_a s53 1154) (ps_a s53 1155) (ps_i s53 1131 21).toInt x1.toInt := by rw [show ps_a s53 1134 = ps_a s46 1134 from (K53.2 1134 rfl).1, show ps_a s53 1157 = ps_a s46 1157 from (K53.2 1157 rfl).1, show ps_a s53 1152 = ps_a s46 1152 from (K53.2 1152 rfl).1, show ps_a s53 1153 = ps_a s46 1153 from (K53.2 1153 rfl).1, show ps_a s53 1154 = ps_a s46 1154 from (K53.2 1154 rfl).1, show ps_a s53 1155 = ps_a s46 1155 from (K53.2 1155 rfl).1, show ps_i s53 1131 21 = ps_i s46 1131 21 from kp_i K53 21 rfl]; exact hC
      have hA : As σ (ps_a s53 1134) x1.toInt (ps_i s53 1131 51).toInt := by rw [show ps_a s53 1134 = ps_a s46 1134 from (K53.2 1134 rfl).1, show ps_i s53 1131 51 = ps_i s46 1131 51 from kp_i K53 51 rfl]; exact hA
      have hO : OutB (ps_a s 1134) (ps_a s53 1134) x1.toInt := by rw [show ps_a s53 1134 = ps_a s46 1134 from (K53.2 1134 rfl).1]; exact hO
      have hB : Fm σ (ps_a s53 1134) (41 * (ps_a s 1154 (Int32.toNatClampNeg x1)).toInt) := by rw [show ps_a s53 1134 = ps_a s46 1134 from (K53.2 1134 rfl).1]; exact hB
      have hM3 : Md (ps_a s53 1149) (ps_i s53 1131 34).toInt ((([] ++ [1]) ++ l) ++ l2) := p53_0
      have r55_k := mf_51 J53
      have u56 : (ps_i s53 1131 51).toInt = (ps_i s46 1131 51).toInt := xeq (kp_i K53 51 rfl)
      have r57_k := mf_51 J46
      have u58 : (ps_i s46 1131 51).toInt = (ps_i s 1131 51).toInt := xeq (kp_i K46 51 rfl)
      have r59_k : 0 ≤ (ps_a s53 1152 (Int32.toNatClampNeg x1)).toInt ∧ (ps_a s53 1152 (Int32.toNatClampNeg x1)).toInt ≤ 18 := ma_1152 (i := x1) J53 (show 0 ≤ x1.toInt from by omega) (show x1.toInt < 40 from by omega)
      have u60 : (ps_a s53 1152 (Int32.toNatClampNeg x1)).toInt = (ps_a s46 1152 (Int32.toNatClampNeg x1)).toInt := xeq (kp_a K53 1152 rfl _)
      have r61_k : 0 ≤ (ps_a s46 1152 (Int32.toNatClampNeg x1)).toInt ∧ (ps_a s46 1152 (Int32.toNatClampNeg x1)).toInt ≤ 18 := ma_1152 (i := x1) J46 (show 0 ≤ x1.toInt from by omega) (show x1.toInt < 40 from by omega)
      have u62 : (ps_a s46 1152 (Int32.toNatClampNeg x1)).toInt = (ps_a s 1152 (Int32.toNatClampNeg x1)).toInt := xeq (kp_a K46 1152 rfl _)
      exact ms_253_202 (x1 := x1) (σ := σ) k   _ J53 K54 hS hC hA hO (show 0 ≤ x1.toInt from by omega) (show x1.toInt < 40 from by omega) (show (ps_i s 1131 51).toInt ≤ 100 from by omega) (show (ps_i s53 1131 51).toInt = (ps_i s 1131 51).toInt from by omega) (show 3 ≤ (ps_a s53 1152 (Int32.toNatClampNeg x1)).toInt from by omega) (show (ps_a s53 1152 (Int32.toNatClampNeg x1)).toInt < 8 from by omega) (⟨_, hM3, by simp only [List.length_append, List.length_cons, List.length_nil]; omega, Or.inl (show ws σ (1 :: (l ++ l2)) [true] from ws_c (W' := []) (kS_f2 (by decide) (by decide)) (ws_app (W1 := [true]) (W2 := [true]) (wf_ws hl2) (wf_ws hl4)))⟩)
    · have f63_k : (ps_i s 1131 34).toInt < (260 : Int) := xlt h41_k
      refine ps_nd_i (show pm_in (ps_i s 1131 34) 260 = true from xgi (show 0 ≤ (ps_i s 1131 34).toInt from by omega) (show (ps_i s 1131 34).toInt < 260 from by omega)) ?_
      have J64 := mwa_n 1149 (i := (Int32.toNatClampNeg (ps_i s 1131 34))) (v := (1 : Int32)) J rfl (by decide)
      have K65 := kpa' K (r := 1149) (i := (Int32.toNatClampNeg (ps_i s 1131 34))) (v := (1 : Int32)) rfl
      have a66_k : ((ps_i s 1131 34) + 1).toInt = (ps_i s 1131 34).toInt + (1 : Int) := xIa (show -2147483648 ≤ (ps_i s 1131 34).toInt + (1 : Int) from by omega) (show (ps_i s 1131 34).toInt + (1 : Int) < 2147483648 from by omega)
      have J67 := mwi_34 (v := ((ps_i s 1131 34) + 1)) J64 (show 0 ≤ ((ps_i s 1131 34) + 1).toInt from by omega) (show ((ps_i s 1131 34) + 1).toInt ≤ 100000 from by omega)
      have K68 := kpi K65 (q := 34) (v := ((ps_i s 1131 34) + 1)) rfl
      have hM1 : Md (ps_a (ps_ui (ps_ua s 1149 (Int32.toNatClampNeg (ps_i s 1131 34)) 1) 1131 34 ((ps_i s 1131 34) + 1)) 1149) (ps_i (ps_ui (ps_ua s 1149 (Int32.toNatClampNeg (ps_i s 1131 34)) 1) 1131 34 ((ps_i s 1131 34) + 1)) 1131 34).toInt ([] ++ [1]) := by first | exact Md_make hM rfl (by decide) | exact Md_make' hM (by decide) (by omega)
      have hB := SC_2i hC rfl (by omega)
      obtain ⟨l, hl1, hl2⟩ := SC_1i hC rfl (by omega)
      have hlen := hl1.2.2.2.1
      refine ms_227 J67 ((by rw [show (((0 : Int32) + ((41 : Int32) * (ps_a s 1153 (Int32.toNatClampNeg x1))))).toInt = 41 * (ps_a s 1153 (Int32.toNatClampNeg x1)).toInt from by omega]; exact hl1)) (hM1) ((by simp only [List.length_append, List.length_cons, List.length_nil]; omega)) (fun s69 J69 K69 p69_0 => ?_)
      have K70 := kpt K68 K69 rfl rfl
      have KC := K69
      have hS : Sg (ps_a s69 1135) (ps_a s69 1136) (ps_a s69 1138) (ps_a s69 1139) (ps_i s69 1131 21).toInt σ := by rw [show ps_a s69 1135 = ps_a (ps_ui (ps_ua s 1149 (Int32.toNatClampNeg (ps_i s 1131 34)) 1) 1131 34 ((ps_i s 1131 34) + 1)) 1135 from (K69.2 1135 rfl).1, show ps_a s69 1136 = ps_a (ps_ui (ps_ua s 1149 (Int32.toNatClampNeg (ps_i s 1131 34)) 1) 1131 34 ((ps_i s 1131 34) + 1)) 1136 from (K69.2 1136 rfl).1, show ps_a s69 1138 = ps_a (ps_ui (ps_ua s 1149 (Int32.toNatClampNeg (ps_i s 1131 34)) 1) 1131 34 ((ps_i s 1131 34) + 1)) 1138 from (K69.2 1138 rfl).1, show ps_a s69 1139 = ps_a (ps_ui (ps_ua s 1149 (Int32.toNatClampNeg (ps_i s 1131 34)) 1) 1131 34 ((ps_i s 1131 34) + 1)) 1139 from (K69.2 1139 rfl).1, show ps_i s69 1131 21 = ps_i (ps_ui (ps_ua s 1149 (Int32.toNatClampNeg (ps_i s 1131 34)) 1) 1131 34 ((ps_i s 1131 34) + 1)) 1131 21 from kp_i K69 21 rfl]; exact hS
      have hC : SC σ (ps_a s69 1134) (ps_a s69 1157) (ps_a s69 1152) (ps_a s69 1153) (ps_a s69 1154) (ps_a s69 1155) (ps_i s69 1131 21).toInt x1.toInt := by rw [show ps_a s69 1134 = ps_a (ps_ui (ps_ua s 1149 (Int32.toNatClampNeg (ps_i s 1131 34)) 1) 1131 34 ((ps_i s 1131 34) + 1)) 1134 from (K69.2 1134 rfl).1, show ps_a s69 1157 = ps_a (ps_ui (ps_ua s 1149 (Int32.toNatClampNeg (ps_i s 1131 34)) 1) 1131 34 ((ps_i s 1131 34) + 1)) 1157 from (K69.2 1157 rfl).1, show ps_a s69 1152 = ps_a (ps_ui (ps_ua s 1149 (Int32.toNatClampNeg (ps_i s 1131 34)) 1) 1131 34 ((ps_i s 1131 34) + 1)) 1152 from (K69.2 1152 rfl).1, show ps_a s69 1153 = ps_a (ps_ui (ps_ua s 1149 (Int32.toNatClampNeg (ps_i s 1131 34)) 1) 1131 34 ((ps_i s 1131 34) + 1)) 1153 from (K69.2 1153 rfl).1, show ps_a s69 1154 = ps_a (ps_ui (ps_ua s 1149 (Int32.toNatClampNeg (ps_i s 1131 34)) 1) 1131 34 ((ps_i s 1131 34) + 1)) 1154 from (K69.2 1154 rfl).1, show ps_a s69 1155 = ps_a (ps_ui (ps_ua s 1149 (Int32.toNatClampNeg (ps_i s 1131 34)) 1) 1131 34 ((ps_i s 1131 34) + 1)) 1155 from (K69.2 1155 rfl).1, show ps_i s69 1131 21 = ps_i (ps_ui (ps_ua s 1149 (Int32.toNatClampNeg (ps_i s 1131 34)) 1) 1131 34 ((ps_i s 1131 34) + 1)) 1131 21 from kp_i K69 21 rfl]; exact hC
      have hA : As σ (ps_a s69 1134) x1.toInt (ps_i s69 1131 51).toInt := by rw [show ps_a s69 1134 = ps_a (ps_ui (ps_ua s 1149 (Int32.toNatClampNeg (ps_i s 1131 34)) 1) 1131 34 ((ps_i s 1131 34) + 1)) 1134 from (K69.2 1134 rfl).1, show ps_i s69 1131 51 = ps_i (ps_ui (ps_ua s 1149 (Int32.toNatClampNeg (ps_i s 1131 34)) 1) 1131 34 ((ps_i s 1131 34) + 1)) 1131 51 from kp_i K69 51 rfl]; exact hA
      have hO : OutB (ps_a s 1134) (ps_a s69 1134) x1.toInt := by rw [show ps_a s69 1134 = ps_a (ps_ui (ps_ua s 1149 (Int32.toNatClampNeg (ps_i s 1131 34)) 1) 1131 34 ((ps_i s 1131 34) + 1)) 1134 from (K69.2 1134 rfl).1]; exact hO
      have hB : Fm σ (ps_a s69 1134) (41 * (ps_a s 1154 (Int32.toNatClampNeg x1)).toInt) := by rw [show ps_a s69 1134 = ps_a (ps_ui (ps_ua s 1149 (Int32.toNatClampNeg (ps_i s 1131 34)) 1) 1131 34 ((ps_i s 1131 34) + 1)) 1134 from (K69.2 1134 rfl).1]; exact hB
      have hM2 : Md (ps_a s69 1149) (ps_i s69 1131 34).toInt (([] ++ [1]) ++ l) := p69_0
      refine pg_245_0 ?_
      refine ps_nd_i (show pm_in x1 40 = true from xgi (show 0 ≤ x1.toInt from by omega) (show x1.toInt < 40 from by omega)) ?_
      have r71_k : 0 ≤ (ps_a s69 1154 (Int32.toNatClampNeg x1)).toInt ∧ (ps_a s69 1154 (Int32.toNatClampNeg x1)).toInt ≤ 9999 := ma_1154 (i := x1) J69 (show 0 ≤ x1.toInt from by omega) (show x1.toInt < 40 from by omega)
      have u72 : (ps_a s69 1154 (Int32.toNatClampNeg x1)).toInt = (ps_a s 1154 (Int32.toNatClampNeg x1)).toInt := xeq (kp_a K69 1154 rfl _)
      have r73_k : 0 ≤ (ps_a s 1154 (Int32.toNatClampNeg x1)).toInt ∧ (ps_a s 1154 (Int32.toNatClampNeg x1)).toInt ≤ 9999 := ma_1154 (i := x1) J (show 0 ≤ x1.toInt from by omega) (show x1.toInt < 40 from by omega)
      refine pg_242_0 ?_
      have a74_k : ((41 : Int32) * (ps_a s69 1154 (Int32.toNatClampNeg x1))).toInt = (41 : Int) * (ps_a s69 1154 (Int32.toNatClampNeg x1)).toInt := xIm (show -2147483648 ≤ (41 : Int) * (ps_a s69 1154 (Int32.toNatClampNeg x1)).toInt from by omega) (show (41 : Int) * (ps_a s69 1154 (Int32.toNatClampNeg x1)).toInt < 2147483648 from by omega)
      have a75_k : ((0 : Int32) + ((41 : Int32) * (ps_a s69 1154 (Int32.toNatClampNeg x1)))).toInt = (0 : Int) + ((41 : Int32) * (ps_a s69 1154 (Int32.toNatClampNeg x1))).toInt := xIa (show -2147483648 ≤ (0 : Int) + ((41 : Int32) * (ps_a s69 1154 (Int32.toNatClampNeg x1))).toInt from by omega) (show (0 : Int) + ((41 : Int32) * (ps_a s69 1154 (Int32.toNatClampNeg x1))).toInt < 2147483648 from by omega)
      obtain ⟨l2, hl3, hl4⟩ := id hB
      have hlen2 := hl3.2.2.2.1
      refine ms_227 J69 ((by rw [show (((0 : Int32) + ((41 : Int32) * (ps_a s69 1154 (Int32.toNatClampNeg x1))))).toInt = 41 * (ps_a s 1154 (Int32.toNatClampNeg x1)).toInt from by omega]; exact hl3)) (hM2) ((by simp only [List.length_append, List.length_cons, List.length_nil]; omega)) (fun s76 J76 K76 p76_0 => ?_)
      have K77 := kpt K70 K76 rfl rfl
      have KC := K76
      have hS : Sg (ps_a s76 1135) (ps_a s76 1136) (ps_a s76 1138) (ps_a s76 1139) (ps_i s76 1131 21).toInt σ := by rw [show ps_a s76 1135 = ps_a s69 1135 from (K76.2 1135 rfl).1, show ps_a s76 1136 = ps_a s69 1136 from (K76.2 1136 rfl).1, show ps_a s76 1138 = ps_a s69 1138 from (K76.2 1138 rfl).1, show ps_a s76 1139 = ps_a s69 1139 from (K76.2 1139 rfl).1, show ps_i s76 1131 21 = ps_i s69 1131 21 from kp_i K76 21 rfl]; exact hS
      have hC : SC σ (ps_a s76 1134) (ps_a s76 1157) (ps_a s76 1152) (ps_a s76 1153) (ps_a s76 1154) (ps_a s76 1155) (ps_i s76 1131 21).toInt x1.toInt := by rw [show ps_a s76 1134 = ps_a s69 1134 from (K76.2 1134 rfl).1, show ps_a s76 1157 = ps_a s69 1157 from (K76.2 1157 rfl).1, show ps_a s76 1152 = ps_a s69 1152 from (K76.2 1152 rfl).1, show ps_a s76 1153 = ps_a s69 1153 from (K76.2 1153 rfl).1, show ps_a s76 1154 = ps_a s69 1154 from (K76.2 1154 rfl).1, show ps_a s76 1155 = ps_a s69 1155 from (K76.2 1155 rfl).1, show ps_i s76 1131 21 = ps_i s69 1131 21 from kp_i K76 21 rfl]; exact hC
      have hA : As σ (ps_a s76 1134) x1.toInt (ps_i s76 1131 51).toInt := by rw [show ps_a s76 1134 = ps_a s69 1134 from (K76.2 1134 rfl).1, show ps_i s76 1131 51 = ps_i s69 1131 51 from kp_i K76 51 rfl]; exact hA
      have hO : OutB (ps_a s 1134) (ps_a s76 1134) x1.toInt := by rw [show ps_a s76 1134 = ps_a s69 1134 from (K76.2 1134 rfl).1]; exact hO
      have hB : Fm σ (ps_a s76 1134) (41 * (ps_a s 1154 (Int32.toNatClampNeg x1)).toInt) := by rw [show ps_a s76 1134 = ps_a s69 1134 from (K76.2 1134 rfl).1]; exact hB
      have hM3 : Md (ps_a s76 1149) (ps_i s76 1131 34).toInt ((([] ++ [1]) ++ l) ++ l2) := p76_0
      have r78_k := mf_51 J76
      have u79 : (ps_i s76 1131 51).toInt = (ps_i s69 1131 51).toInt := xeq (kp_i K76 51 rfl)
      have r80_k := mf_51 J69
      have u81 : (ps_i s69 1131 51).toInt = (ps_i s 1131 51).toInt := xeq (kp_i K69 51 rfl)
      have r82_k : 0 ≤ (ps_a s76 1152 (Int32.toNatClampNeg x1)).toInt ∧ (ps_a s76 1152 (Int32.toNatClampNeg x1)).toInt ≤ 18 := ma_1152 (i := x1) J76 (show 0 ≤ x1.toInt from by omega) (show x1.toInt < 40 from by omega)
      have u83 : (ps_a s76 1152 (Int32.toNatClampNeg x1)).toInt = (ps_a s69 1152 (Int32.toNatClampNeg x1)).toInt := xeq (kp_a K76 1152 rfl _)
      have r84_k : 0 ≤ (ps_a s69 1152 (Int32.toNatClampNeg x1)).toInt ∧ (ps_a s69 1152 (Int32.toNatClampNeg x1)).toInt ≤ 18 := ma_1152 (i := x1) J69 (show 0 ≤ x1.toInt from by omega) (show x1.toInt < 40 from by omega)
      have u85 : (ps_a s69 1152 (Int32.toNatClampNeg x1)).toInt = (ps_a s 1152 (Int32.toNatClampNeg x1)).toInt := xeq (kp_a K69 1152 rfl _)
      exact ms_253_202 (x1 := x1) (σ := σ) k   _ J76 K77 hS hC hA hO (show 0 ≤ x1.toInt from by omega) (show x1.toInt < 40 from by omega) (show (ps_i s 1131 51).toInt ≤ 100 from by omega) (show (ps_i s76 1131 51).toInt = (ps_i s 1131 51).toInt from by omega) (show 3 ≤ (ps_a s76 1152 (Int32.toNatClampNeg x1)).toInt from by omega) (show (ps_a s76 1152 (Int32.toNatClampNeg x1)).toInt < 8 from by omega) (⟨_, hM3, by simp only [List.length_append, List.length_cons, List.length_nil]; omega, Or.inl (show ws σ (1 :: (l ++ l2)) [true] from ws_c (W' := []) (kS_f2 (by decide) (by decide)) (ws_app (W1 := [true]) (W2 := [true]) (wf_ws hl2) (wf_ws hl4)))⟩)
  have f86_k : (ps_a s 1152 (Int32.toNatClampNeg x1)).toInt ≠ (3 : Int) := xne h38_k
  refine And.intro (fun h87_k => ?_) (fun h87_k => ?_)
  · have f88_k : (ps_a s 1152 (Int32.toNatClampNeg x1)).toInt = (4 : Int) := xeq h87_k
    have hA1 := (SC_1 (j := ((0 : Int32) + ((41 : Int32) * (ps_a s 1153 (Int32.toNatClampNeg x1))))) hC rfl (by omega) (by omega)).1
    refine ms_254 J hS (hA1) hM (show 0 ≤ x1.toInt from by omega) (show x1.toInt < 40 from by omega) (fun s89 J89 K89 p89_0 => ?_)
    have K90 := kpt K K89 rfl rfl
    have KC := K89
    have hS : Sg (ps_a s89 1135) (ps_a s89 1136) (ps_a s89 1138) (ps_a s89 1139) (ps_i s89 1131 21).toInt σ := by rw [show ps_a s89 1135 = ps_a s 1135 from (K89.2 1135 rfl).1, show ps_a s89 1136 = ps_a s 1136 from (K89.2 1136 rfl).1, show ps_a s89 1138 = ps_a s 1138 from (K89.2 1138 rfl).1, show ps_a s89 1139 = ps_a s 1139 from (K89.2 1139 rfl).1, show ps_i s89 1131 21 = ps_i s 1131 21 from kp_i K89 21 rfl]; exact hS
    have hC : SC σ (ps_a s89 1134) (ps_a s89 1157) (ps_a s89 1152) (ps_a s89 1153) (ps_a s89 1154) (ps_a s89 1155) (ps_i s89 1131 21).toInt x1.toInt := by rw [show ps_a s89 1134 = ps_a s 1134 from (K89.2 1134 rfl).1, show ps_a s89 1157 = ps_a s 1157 from (K89.2 1157 rfl).1, show ps_a s89 1152 = ps_a s 1152 from (K89.2 1152 rfl).1, show ps_a s89 1153 = ps_a s 1153 from (K89.2 1153 rfl).1, show ps_a s89 1154 = ps_a s 1154 from (K89.2 1154 rfl).1, show ps_a s89 1155 = ps_a s 1155 from (K89.2 1155 rfl).1, show ps_i s89 1131 21 = ps_i s 1131 21 from kp_i K89 21 rfl]; exact hC
    have hA : As σ (ps_a s89 1134) x1.toInt (ps_i s89 1131 51).toInt := by rw [show ps_a s89 1134 = ps_a s 1134 from (K89.2 1134 rfl).1, show ps_i s89 1131 51 = ps_i s 1131 51 from kp_i K89 51 rfl]; exact hA
    have hO : OutB (ps_a s 1134) (ps_a s89 1134) x1.toInt := by rw [show ps_a s89 1134 = ps_a s 1134 from (K89.2 1134 rfl).1]; exact hO
    have hRs : Res σ (ps_a s89 1149) (ps_i s89 1131 34).toInt (ps_i s89 1131 50).toInt := p89_0
    have r91_k := mf_51 J89
    have u92 : (ps_i s89 1131 51).toInt = (ps_i s 1131 51).toInt := xeq (kp_i K89 51 rfl)
    have r93_k : 0 ≤ (ps_a s89 1152 (Int32.toNatClampNeg x1)).toInt ∧ (ps_a s89 1152 (Int32.toNatClampNeg x1)).toInt ≤ 18 := ma_1152 (i := x1) J89 (show 0 ≤ x1.toInt from by omega) (show x1.toInt < 40 from by omega)
    have u94 : (ps_a s89 1152 (Int32.toNatClampNeg x1)).toInt = (ps_a s 1152 (Int32.toNatClampNeg x1)).toInt := xeq (kp_a K89 1152 rfl _)
    exact ms_253_202 (x1 := x1) (σ := σ) k   _ J89 K90 hS hC hA hO (show 0 ≤ x1.toInt from by omega) (show x1.toInt < 40 from by omega) (show (ps_i s 1131 51).toInt ≤ 100 from by omega) (show (ps_i s89 1131 51).toInt = (ps_i s 1131 51).toInt from by omega) (show 3 ≤ (ps_a s89 1152 (Int32.toNatClampNeg x1)).toInt from by omega) (show (ps_a s89 1152 (Int32.toNatClampNeg x1)).toInt < 8 from by omega) hRs
  have f95_k : (ps_a s 1152 (Int32.toNatClampNeg x1)).toInt ≠ (4 : Int) := xne h87_k
  refine And.intro (fun h96_k => ?_) (fun h96_k => ?_)
  · have f97_k : (ps_a s 1152 (Int32.toNatClampNeg x1)).toInt = (5 : Int) := xeq h96_k
    have hA1 := (SC_1 (j := ((0 : Int32) + ((41 : Int32) * (ps_a s 1153 (Int32.toNatClampNeg x1))))) hC rfl (by omega) (by omega)).1
    refine ms_254 J hS (hA1) hM (show 0 ≤ x1.toInt from by omega) (show x1.toInt < 40 from by omega) (fun s98 J98 K98 p98_0 => ?_)
    have K99 := kpt K K98 rfl rfl
    have KC := K98
    have hS : Sg (ps_a s98 1135) (ps_a s98 1136) (ps_a s98 1138) (ps_a s98 1139) (ps_i s98 1131 21).toInt σ := by rw [show ps_a s98 1135 = ps_a s 1135 from (K98.2 1135 rfl).1, show ps_a s98 1136 = ps_a s 1136 from (K98.2 1136 rfl).1, show ps_a s98 1138 = ps_a s 1138 from (K98.2 1138 rfl).1, show ps_a s98 1139 = ps_a s 1139 from (K98.2 1139 rfl).1, show ps_i s98 1131 21 = ps_i s 1131 21 from kp_i K98 21 rfl]; exact hS
    have hC : SC σ (ps_a s98 1134) (ps_a s98 1157) (ps_a s98 1152) (ps_a s98 1153) (ps_a s98 1154) (ps_a s98 1155) (ps_i s98 1131 21).toInt x1.toInt := by rw [show ps_a s98 1134 = ps_a s 1134 from (K98.2 1134 rfl).1, show ps_a s98 1157 = ps_a s 1157 from (K98.2 1157 rfl).1, show ps_a s98 1152 = ps_a s 1152 from (K98.2 1152 rfl).1, show ps_a s98 1153 = ps_a s 1153 from (K98.2 1153 rfl).1, show ps_a s98 1154 = ps_a s 1154 from (K98.2 1154 rfl).1, show ps_a s98 1155 = ps_a s 1155 from (K98.2 1155 rfl).1, show ps_i s98 1131 21 = ps_i s 1131 21 from kp_i K98 21 rfl]; exact hC
    have hA : As σ (ps_a s98 1134) x1.toInt (ps_i s98 1131 51).toInt := by rw [show ps_a s98 1134 = ps_a s 1134 from (K98.2 1134 rfl).1, show ps_i s98 1131 51 = ps_i s 1131 51 from kp_i K98 51 rfl]; exact hA
    have hO : OutB (ps_a s 1134) (ps_a s98 1134) x1.toInt := by rw [show ps_a s98 1134 = ps_a s 1134 from (K98.2 1134 rfl).1]; exact hO
    have hRs : Res σ (ps_a s98 1149) (ps_i s98 1131 34).toInt (ps_i s98 1131 50).toInt := p98_0
    have r100_k := mf_51 J98
    have u101 : (ps_i s98 1131 51).toInt = (ps_i s 1131 51).toInt := xeq (kp_i K98 51 rfl)
    have r102_k : 0 ≤ (ps_a s98 1152 (Int32.toNatClampNeg x1)).toInt ∧ (ps_a s98 1152 (Int32.toNatClampNeg x1)).toInt ≤ 18 := ma_1152 (i := x1) J98 (show 0 ≤ x1.toInt from by omega) (show x1.toInt < 40 from by omega)
    have u103 : (ps_a s98 1152 (Int32.toNatClampNeg x1)).toInt = (ps_a s 1152 (Int32.toNatClampNeg x1)).toInt := xeq (kp_a K98 1152 rfl _)
    exact ms_253_202 (x1 := x1) (σ := σ) k   _ J98 K99 hS hC hA hO (show 0 ≤ x1.toInt from by omega) (show x1.toInt < 40 from by omega) (show (ps_i s 1131 51).toInt ≤ 100 from by omega) (show (ps_i s98 1131 51).toInt = (ps_i s 1131 51).toInt from by omega) (show 3 ≤ (ps_a s98 1152 (Int32.toNatClampNeg x1)).toInt from by omega) (show (ps_a s98 1152 (Int32.toNatClampNeg x1)).toInt < 8 from by omega) hRs
  have f104_k : (ps_a s 1152 (Int32.toNatClampNeg x1)).toInt ≠ (5 : Int) := xne h96_k
  refine pg_225_0 ?_
  have r105_k := mf_34 J
  refine And.intro (fun h106_k => ?_) (fun h106_k => ?_)
  · have f107_k : (260 : Int) ≤ (ps_i s 1131 34).toInt := xle h106_k
    have a108_k : ((ps_i s 1131 34) + 1).toInt = (ps_i s 1131 34).toInt + (1 : Int) := xIa (show -2147483648 ≤ (ps_i s 1131 34).toInt + (1 : Int) from by omega) (show (ps_i s 1131 34).toInt + (1 : Int) < 2147483648 from by omega)
    have J109 := mwi_34 (v := ((ps_i s 1131 34) + 1)) J (show 0 ≤ ((ps_i s 1131 34) + 1).toInt from by omega) (show ((ps_i s 1131 34) + 1).toInt ≤ 100000 from by omega)
    have K110 := kpi K (q := 34) (v := ((ps_i s 1131 34) + 1)) rfl
    have hM1 : Md (ps_a (ps_ui s 1131 34 ((ps_i s 1131 34) + 1)) 1149) (ps_i (ps_ui s 1131 34 ((ps_i s 1131 34) + 1)) 1131 34).toInt ([] ++ [2]) := by first | exact Md_make hM rfl (by decide) | exact Md_make' hM (by decide) (by omega)
    refine ps_nd_i (show pm_in x1 40 = true from xgi (show 0 ≤ x1.toInt from by omega) (show x1.toInt < 40 from by omega)) ?_
    refine And.intro (fun h111_k => ?_) (fun h111_k => ?_)
    · have f112_k : (ps_a s 1152 (Int32.toNatClampNeg x1)).toInt ≠ (6 : Int) := xne h111_k
      exact ms_253_174 (x1 := x1) (σ := σ) k  ((0 : Int32) + ((41 : Int32) * (ps_a s 1153 (Int32.toNatClampNeg x1)))) _ J109 K110 hS hC hA hO (show 0 ≤ x1.toInt from by omega) (show x1.toInt < 40 from by omega) (show (ps_i s 1131 51).toInt ≤ 100 from by omega) (show (ps_i s 1131 51).toInt = (ps_i s 1131 51).toInt from by omega) (show (ps_a s 1152 (Int32.toNatClampNeg x1)).toInt = 6 ∨ (ps_a s 1152 (Int32.toNatClampNeg x1)).toInt = 7 from by omega) (show ((0 : Int32) + ((41 : Int32) * (ps_a s 1153 (Int32.toNatClampNeg x1)))).toInt = 41 * (ps_a s 1153 (Int32.toNatClampNeg x1)).toInt from by omega) (⟨_, hM1, by simp only [List.length_append, List.length_cons, List.length_nil]; omega, Or.inr ⟨(show (ps_a s 1152 (Int32.toNatClampNeg x1)).toInt = 7 from by omega), fun m hm => (show ws σ (2 :: m) [true] from ws_c (W' := []) (kS_f2 (by decide) (by decide)) hm)⟩⟩)
    · have f113_k : (ps_a s 1152 (Int32.toNatClampNeg x1)).toInt = (6 : Int) := xeq h111_k
      obtain ⟨l, hl1, hl2⟩ := SC_1i hC rfl (by omega)
      have hlen := hl1.2.2.2.1
      refine ms_227 J109 ((by rw [show (((0 : Int32) + ((41 : Int32) * (ps_a s 1153 (Int32.toNatClampNeg x1))))).toInt = 41 * (ps_a s 1153 (Int32.toNatClampNeg x1)).toInt from by omega]; exact hl1)) (hM1) ((by simp only [List.length_append, List.length_cons, List.length_nil]; omega)) (fun s114 J114 K114 p114_0 => ?_)
      have K115 := kpt K110 K114 rfl rfl
      have KC := K114
      have hS : Sg (ps_a s114 1135) (ps_a s114 1136) (ps_a s114 1138) (ps_a s114 1139) (ps_i s114 1131 21).toInt σ := by rw [show ps_a s114 1135 = ps_a (ps_ui s 1131 34 ((ps_i s 1131 34) + 1)) 1135 from (K114.2 1135 rfl).1, show ps_a s114 1136 = ps_a (ps_ui s 1131 34 ((ps_i s 1131 34) + 1)) 1136 from (K114.2 1136 rfl).1, show ps_a s114 1138 = ps_a (ps_ui s 1131 34 ((ps_i s 1131 34) + 1)) 1138 from (K114.2 1138 rfl).1, show ps_a s114 1139 = ps_a (ps_ui s 1131 34 ((ps_i s 1131 34) + 1)) 1139 from (K114.2 1139 rfl).1, show ps_i s114 1131 21 = ps_i (ps_ui s 1131 34 ((ps_i s 1131 34) + 1)) 1131 21 from kp_i K114 21 rfl]; exact hS
      have hC : SC σ (ps_a s114 1134) (ps_a s114 1157) (ps_a s114 1152) (ps_a s114 1153) (ps_a s114 1154) (ps_a s114 1155) (ps_i s114 1131 21).toInt x1.toInt := by rw [show ps_a s114 1134 = ps_a (ps_ui s 1131 34 ((ps_i s 1131 34) + 1)) 1134 from (K114.2 1134 rfl).1, show ps_a s114 1157 = ps_a (ps_ui s 1131 34 ((ps_i s 1131 34) + 1)) 1157 from (K114.2 1157 rfl).1, show ps_a s114 1152 = ps_a (ps_ui s 1131 34 ((ps_i s 1131 34) + 1)) 1152 from (K114.2 1152 rfl).1, show ps_a s114 1153 = ps_a (ps_ui s 1131 34 ((ps_i s 1131 34) + 1)) 1153 from (K114.2 1153 rfl).1, show ps_a s114 1154 = ps_a (ps_ui s 1131 34 ((ps_i s 1131 34) + 1)) 1154 from (K114.2 1154 rfl).1, show ps_a s114 1155 = ps_a (ps_ui s 1131 34 ((ps_i s 1131 34) + 1)) 1155 from (K114.2 1155 rfl).1, show ps_i s114 1131 21 = ps_i (ps_ui s 1131 34 ((ps_i s 1131 34) + 1)) 1131 21 from kp_i K114 21 rfl]; exact hC
      have hA : As σ (ps_a s114 1134) x1.toInt (ps_i s114 1131 51).toInt := by rw [show ps_a s114 1134 = ps_a (ps_ui s 1131 34 ((ps_i s 1131 34) + 1)) 1134 from (K114.2 1134 rfl).1, show ps_i s114 1131 51 = ps_i (ps_ui s 1131 34 ((ps_i s 1131 34) + 1)) 1131 51 from kp_i K114 51 rfl]; exact hA
      have hO : OutB (ps_a s 1134) (ps_a s114 1134) x1.toInt := by rw [show ps_a s114 1134 = ps_a (ps_ui s 1131 34 ((ps_i s 1131 34) + 1)) 1134 from (K114.2 1134 rfl).1]; exact hO
      have hM2 : Md (ps_a s114 1149) (ps_i s114 1131 34).toInt (([] ++ [2]) ++ l) := p114_0
      have r116_k := mf_51 J114
      have u117 : (ps_i s114 1131 51).toInt = (ps_i s 1131 51).toInt := xeq (kp_i K114 51 rfl)
      have r118_k : 0 ≤ (ps_a s114 1152 (Int32.toNatClampNeg x1)).toInt ∧ (ps_a s114 1152 (Int32.toNatClampNeg x1)).toInt ≤ 18 := ma_1152 (i := x1) J114 (show 0 ≤ x1.toInt from by omega) (show x1.toInt < 40 from by omega)
      have u119 : (ps_a s114 1152 (Int32.toNatClampNeg x1)).toInt = (ps_a s 1152 (Int32.toNatClampNeg x1)).toInt := xeq (kp_a K114 1152 rfl _)
      have r120_k : -1 ≤ (ps_a s114 1153 (Int32.toNatClampNeg x1)).toInt ∧ (ps_a s114 1153 (Int32.toNatClampNeg x1)).toInt ≤ 9999 := ma_1153 (i := x1) J114 (show 0 ≤ x1.toInt from by omega) (show x1.toInt < 40 from by omega)
      have u121 : (ps_a s114 1153 (Int32.toNatClampNeg x1)).toInt = (ps_a s 1153 (Int32.toNatClampNeg x1)).toInt := xeq (kp_a K114 1153 rfl _)
      exact ms_253_174 (x1 := x1) (σ := σ) k  ((0 : Int32) + ((41 : Int32) * (ps_a s 1153 (Int32.toNatClampNeg x1)))) _ J114 K115 hS hC hA hO (show 0 ≤ x1.toInt from by omega) (show x1.toInt < 40 from by omega) (show (ps_i s 1131 51).toInt ≤ 100 from by omega) (show (ps_i s114 1131 51).toInt = (ps_i s 1131 51).toInt from by omega) (show (ps_a s114 1152 (Int32.toNatClampNeg x1)).toInt = 6 ∨ (ps_a s114 1152 (Int32.toNatClampNeg x1)).toInt = 7 from by omega) (show ((0 : Int32) + ((41 : Int32) * (ps_a s 1153 (Int32.toNatClampNeg x1)))).toInt = 41 * (ps_a s114 1153 (Int32.toNatClampNeg x1)).toInt from by omega) (⟨_, hM2, by simp only [List.length_append, List.length_cons, List.length_nil]; omega, Or.inl ⟨by omega, fun m hm => (show ws σ (2 :: (l ++ m)) [true] from ws_c (W' := []) (kS_f2 (by decide) (by decide)) (ws_app (W1 := [true]) (W2 := [true]) (wf_ws hl2) hm))⟩⟩)
  · have f122_k : (ps_i s 1131 34).toInt < (260 : Int) := xlt h106_k
    refine ps_nd_i (show pm_in (ps_i s 1131 34) 260 = true from xgi (show 0 ≤ (ps_i s 1131 34).toInt from by omega) (show (ps_i s 1131 34).toInt < 260 from by omega)) ?_
    have J123 := mwa_n 1149 (i := (Int32.toNatClampNeg (ps_i s 1131 34))) (v := (2 : Int32)) J rfl (by decide)
    have K124 := kpa' K (r := 1149) (i := (Int32.toNatClampNeg (ps_i s 1131 34))) (v := (2 : Int32)) rfl
    have a125_k : ((ps_i s 1131 34) + 1).toInt = (ps_i s 1131 34).toInt + (1 : Int) := xIa (show -2147483648 ≤ (ps_i s 1131 34).toInt + (1 : Int) from by omega) (show (ps_i s 1131 34).toInt + (1 : Int) < 2147483648 from by omega)
    have J126 := mwi_34 (v := ((ps_i s 1131 34) + 1)) J123 (show 0 ≤ ((ps_i s 1131 34) + 1).toInt from by omega) (show ((ps_i s 1131 34) + 1).toInt ≤ 100000 from by omega)
    have K127 := kpi K124 (q := 34) (v := ((ps_i s 1131 34) + 1)) rfl
    have hM1 : Md (ps_a (ps_ui (ps_ua s 1149 (Int32.toNatClampNeg (ps_i s 1131 34)) 2) 1131 34 ((ps_i s 1131 34) + 1)) 1149) (ps_i (ps_ui (ps_ua s 1149 (Int32.toNatClampNeg (ps_i s 1131 34)) 2) 1131 34 ((ps_i s 1131 34) + 1)) 1131 34).toInt ([] ++ [2]) := by first | exact Md_make hM rfl (by decide) | exact Md_make' hM (by decide) (by omega)
    refine ps_nd_i (show pm_in x1 40 = true from xgi (show 0 ≤ x1.toInt from by omega) (show x1.toInt < 40 from by omega)) ?_
    refine And.intro (fun h128_k => ?_) (fun h128_k => ?_)
    · have f129_k : (ps_a s 1152 (Int32.toNatClampNeg x1)).toInt ≠ (6 : Int) := xne h128_k
      exact ms_253_174 (x1 := x1) (σ := σ) k  ((0 : Int32) + ((41 : Int32) * (ps_a s 1153 (Int32.toNatClampNeg x1)))) _ J126 K127 hS hC hA hO (show 0 ≤ x1.toInt from by omega) (show x1.toInt < 40 from by omega) (show (ps_i s 1131 51).toInt ≤ 100 from by omega) (show (ps_i s 1131 51).toInt = (ps_i s 1131 51).toInt from by omega) (show (ps_a s 1152 (Int32.toNatClampNeg x1)).toInt = 6 ∨ (ps_a s 1152 (Int32.toNatClampNeg x1)).toInt = 7 from by omega) (show ((0 : Int32) + ((41 : Int32) * (ps_a s 1153 (Int32.toNatClampNeg x1)))).toInt = 41 * (ps_a s 1153 (Int32.toNatClampNeg x1)).toInt from by omega) (⟨_, hM1, by simp only [List.length_append, List.length_cons, List.length_nil]; omega, Or.inr ⟨(show (ps_a s 1152 (Int32.toNatClampNeg x1)).toInt = 7 from by omega), fun m hm => (show ws σ (2 :: m) [true] from ws_c (W' := []) (kS_f2 (by decide) (by decide)) hm)⟩⟩)
    · have f130_k : (ps_a s 1152 (Int32.toNatClampNeg x1)).toInt = (6 : Int) := xeq h128_k
      obtain ⟨l, hl1, hl2⟩ := SC_1i hC rfl (by omega)
      have hlen := hl1.2.2.2.1
      refine ms_227 J126 ((by rw [show (((0 : Int32) + ((41 : Int32) * (ps_a s 1153 (Int32.toNatClampNeg x1))))).toInt = 41 * (ps_a s 1153 (Int32.toNatClampNeg x1)).toInt from by omega]; exact hl1)) (hM1) ((by simp only [List.length_append, List.length_cons, List.length_nil]; omega)) (fun s131 J131 K131 p131_0 => ?_)
      have K132 := kpt K127 K131 rfl rfl
      have KC := K131
      have hS : Sg (ps_a s131 1135) (ps_a s131 1136) (ps_a s131 1138) (ps_a s131 1139) (ps_i s131 1131 21).toInt σ := by rw [show ps_a s131 1135 = ps_a (ps_ui (ps_ua s 1149 (Int32.toNatClampNeg (ps_i s 1131 34)) 2) 1131 34 ((ps_i s 1131 34) + 1)) 1135 from (K131.2 1135 rfl).1, show ps_a s131 1136 = ps_a (ps_ui (ps_ua s 1149 (Int32.toNatClampNeg (ps_i s 1131 34)) 2) 1131 34 ((ps_i s 1131 34) + 1)) 1136 from (K131.2 1136 rfl).1, show ps_a s131 1138 = ps_a (ps_ui (ps_ua s 1149 (Int32.toNatClampNeg (ps_i s 1131 34)) 2) 1131 34 ((ps_i s 1131 34) + 1)) 1138 from (K131.2 1138 rfl).1, show ps_a s131 1139 = ps_a (ps_ui (ps_ua s 1149 (Int32.toNatClampNeg (ps_i s 1131 34)) 2) 1131 34 ((ps_i s 1131 34) + 1)) 1139 from (K131.2 1139 rfl).1, show ps_i s131 1131 21 = ps_i (ps_ui (ps_ua s 1149 (Int32.toNatClampNeg (ps_i s 1131 34)) 2) 1131 34 ((ps_i s 1131 34) + 1)) 1131 21 from kp_i K131 21 rfl]; exact hS
      have hC : SC σ (ps_a s131 1134) (ps_a s131 1157) (ps_a s131 1152) (ps_a s131 1153) (ps_a s131 1154) (ps_a s131 1155) (ps_i s131 1131 21).toInt x1.toInt := by rw [show ps_a s131 1134 = ps_a (ps_ui (ps_ua s 1149 (Int32.toNatClampNeg (ps_i s 1131 34)) 2) 1131 34 ((ps_i s 1131 34) + 1)) 1134 from (K131.2 1134 rfl).1, show ps_a s131 1157 = ps_a (ps_ui (ps_ua s 1149 (Int32.toNatClampNeg (ps_i s 1131 34)) 2) 1131 34 ((ps_i s 1131 34) + 1)) 1157 from (K131.2 1157 rfl).1, show ps_a s131 1152 = ps_a (ps_ui (ps_ua s 1149 (Int32.toNatClampNeg (ps_i s 1131 34)) 2) 1131 34 ((ps_i s 1131 34) + 1)) 1152 from (K131.2 1152 rfl).1, show ps_a s131 1153 = ps_a (ps_ui (ps_ua s 1149 (Int32.toNatClampNeg (ps_i s 1131 34)) 2) 1131 34 ((ps_i s 1131 34) + 1)) 1153 from (K131.2 1153 rfl).1, show ps_a s131 1154 = ps_a (ps_ui (ps_ua s 1149 (Int32.toNatClampNeg (ps_i s 1131 34)) 2) 1131 34 ((ps_i s 1131 34) + 1)) 1154 from (K131.2 1154 rfl).1, show ps_a s131 1155 = ps_a (ps_ui (ps_ua s 1149 (Int32.toNatClampNeg (ps_i s 1131 34)) 2) 1131 34 ((ps_i s 1131 34) + 1)) 1155 from (K131.2 1155 rfl).1, show ps_i s131 1131 21 = ps_i (ps_ui (ps_ua s 1149 (Int32.toNatClampNeg (ps_i s 1131 34)) 2) 1131 34 ((ps_i s 1131 34) + 1)) 1131 21 from kp_i K131 21 rfl]; exact hC
      have hA : As σ (ps_a s131 1134) x1.toInt (ps_i s131 1131 51).toInt := by rw [show ps_a s131 1134 = ps_a (ps_ui (ps_ua s 1149 (Int32.toNatClampNeg (ps_i s 1131 34)) 2) 1131 34 ((ps_i s 1131 34) + 1)) 1134 from (K131.2 1134 rfl).1, show ps_i s131 1131 51 = ps_i (ps_ui (ps_ua s 1149 (Int32.toNatClampNeg (ps_i s 1131 34)) 2) 1131 34 ((ps_i s 1131 34) + 1)) 1131 51 from kp_i K131 51 rfl]; exact hA
      have hO : OutB (ps_a s 1134) (ps_a s131 1134) x1.toInt := by rw [show ps_a s131 1134 = ps_a (ps_ui (ps_ua s 1149 (Int32.toNatClampNeg (ps_i s 1131 34)) 2) 1131 34 ((ps_i s 1131 34) + 1)) 1134 from (K131.2 1134 rfl).1]; exact hO
      have hM2 : Md (ps_a s131 1149) (ps_i s131 1131 34).toInt (([] ++ [2]) ++ l) := p131_0
      have r133_k := mf_51 J131
      have u134 : (ps_i s131 1131 51).toInt = (ps_i s 1131 51).toInt := xeq (kp_i K131 51 rfl)
      have r135_k : 0 ≤ (ps_a s131 1152 (Int32.toNatClampNeg x1)).toInt ∧ (ps_a s131 1152 (Int32.toNatClampNeg x1)).toInt ≤ 18 := ma_1152 (i := x1) J131 (show 0 ≤ x1.toInt from by omega) (show x1.toInt < 40 from by omega)
      have u136 : (ps_a s131 1152 (Int32.toNatClampNeg x1)).toInt = (ps_a s 1152 (Int32.toNatClampNeg x1)).toInt := xeq (kp_a K131 1152 rfl _)
      have r137_k : -1 ≤ (ps_a s131 1153 (Int32.toNatClampNeg x1)).toInt ∧ (ps_a s131 1153 (Int32.toNatClampNeg x1)).toInt ≤ 9999 := ma_1153 (i := x1) J131 (show 0 ≤ x1.toInt from by omega) (show x1.toInt < 40 from by omega)
      have u138 : (ps_a s131 1153 (Int32.toNatClampNeg x1)).toInt = (ps_a s 1153 (Int32.toNatClampNeg x1)).toInt := xeq (kp_a K131 1153 rfl _)
      exact ms_253_174 (x1 := x1) (σ := σ) k  ((0 : Int32) + ((41 : Int32) * (ps_a s 1153 (Int32.toNatClampNeg x1)))) _ J131 K132 hS hC hA hO (show 0 ≤ x1.toInt from by omega) (show x1.toInt < 40 from by omega) (show (ps_i s 1131 51).toInt ≤ 100 from by omega) (show (ps_i s131 1131 51).toInt = (ps_i s 1131 51).toInt from by omega) (show (ps_a s131 1152 (Int32.toNatClampNeg x1)).toInt = 6 ∨ (ps_a s131 1152 (Int32.toNatClampNeg x1)).toInt = 7 from by omega) (show ((0 : Int32) + ((41 : Int32) * (ps_a s 1153 (Int32.toNatClampNeg x1)))).toInt = 41 * (ps_a s131 1153 (Int32.toNatClampNeg x1)).toInt from by omega) (⟨_, hM2, by simp only [List.length_append, List.length_cons, List.length_nil]; omega, Or.inl ⟨by omega, fun m hm => (show ws σ (2 :: (l ++ m)) [true] from ws_c (W' := []) (kS_f2 (by decide) (by decide)) (ws_app (W1 := [true]) (W2 := [true]) (wf_ws hl2) hm))⟩⟩)
end
section
set_option maxRecDepth 100000
-- ProofBenchModel.isReplaced(III)Z
theorem pg_260_0 {d : Nat} {x1 : Int32} {x2 : Int32} {x3 : Int32} {s : ps_S} {Q : Option Value → ps_S → Prop} (h :
  ps_Cl d 221 [.ref 1131, .int x1, .int 1] s (ps_rI (fun v1 s1 =>
    ps_At (d + 1) 260 14 [(0, .ref 1131), (1, .int x1), (2, .int x2), (3, .int x3), (4, .int v1), (5, .int 0), (6, .int 0)] [] s1 Q))) : ps_At (d + 1) 260 0 [(0, .ref 1131), (1, .int x1), (2, .int x2), (3, .int x3)] [] s Q :=
  ps_wp_at (stops := [(14, [0, 1, 2, 3, 4, 5, 6]), (66, [0, 1, 2, 3, 4, 5, 6]), (111, [0, 1, 2, 3, 4, 5, 6, 7]), (162, [0, 1, 2, 3, 4, 5, 6]), (190, [0, 2, 3, 5, 6])]) (n := 11) h rfl

theorem pg_260_14 {d : Nat} {x1 : Int32} {x2 : Int32} {x3 : Int32} {x4 : Int32} {x5 : Int32} {x6 : Int32} {s : ps_S} {Q : Option Value → ps_S → Prop} (h :
  ps_Cl d 219 [.ref 1131, .int x2] s (ps_rI (fun v1 s1 =>
    (v1 ≤ x5 →
      ps_At (d + 1) 260 190 [(0, .ref 1131), (2, .int x2), (3, .int x3), (5, .int x5), (6, .int x6)] [] s1 Q) ∧
    (x5 < v1 →
      ps_Cl d 219 [.ref 1131, .int x3] s1 (ps_rI (fun v2 s2 =>
        (v2 ≤ x6 →
          ps_At (d + 1) 260 190 [(0, .ref 1131), (2, .int x2), (3, .int x3), (5, .int x5), (6, .int x6)] [] s2 Q) ∧
        (x6 < v2 →
          ps_Cl d 220 [.ref 1131, .int x2, .int x5] s2 (ps_rI (fun v3 s3 =>
            (v3 < 20 →
              ps_At (d + 1) 260 66 [(0, .ref 1131), (1, .int x1), (2, .int x2), (3, .int x3), (4, .int x4), (5, .int x5), (6, .int x6)] [] s3 Q) ∧
            (20 ≤ v3 →
              ps_Cl d 259 [.ref 1131, .int x1, .int 1, .int (x4 - 1), .int x2, .int x5] s3 (ps_rI (fun v4 s4 =>
                (v4 = 0 →
                  ps_At (d + 1) 260 66 [(0, .ref 1131), (1, .int x1), (2, .int x2), (3, .int x3), (4, .int x4), (5, .int x5), (6, .int x6)] [] s4 Q) ∧
                (v4 ≠ 0 →
                  ((1 : Int32) = 0 →
                    ps_At (d + 1) 260 111 [(0, .ref 1131), (1, .int x1), (2, .int x2), (3, .int x3), (4, .int x4), (5, .int x5), (6, .int x6), (7, .int 1)] [] s4 Q) ∧
                  ((1 : Int32) ≠ 0 →
                    ps_Cl d 259 [.ref 1131, .int x1, .int 1, .int (x4 - 1), .int x3, .int x6] s4 (ps_rI (fun v5 s5 =>
                      (v5 = 0 →
                        ps_At (d + 1) 260 111 [(0, .ref 1131), (1, .int x1), (2, .int x2), (3, .int x3), (4, .int x4), (5, .int x5), (6, .int x6), (7, .int 1)] [] s5 Q) ∧
                      (v5 ≠ 0 →
                        ps_At (d + 1) 260 14 [(0, .ref 1131), (1, .int x1), (2, .int x2), (3, .int x3), (4, .int x4), (5, .int (x5 + (x4 - 1))), (6, .int (x6 + (x4 - 1)))] [] s5 Q))))))))))))))))) : ps_At (d + 1) 260 14 [(0, .ref 1131), (1, .int x1), (2, .int x2), (3, .int x3), (4, .int x4), (5, .int x5), (6, .int x6)] [] s Q :=
  ps_wp_at (stops := [(14, [0, 1, 2, 3, 4, 5, 6]), (66, [0, 1, 2, 3, 4, 5, 6]), (111, [0, 1, 2, 3, 4, 5, 6, 7]), (162, [0, 1, 2, 3, 4, 5, 6]), (190, [0, 2, 3, 5, 6])]) (n := 57) h rfl

theorem pg_260_66 {d : Nat} {x1 : Int32} {x2 : Int32} {x3 : Int32} {x4 : Int32} {x5 : Int32} {x6 : Int32} {s : ps_S} {Q : Option Value → ps_S → Prop} (h :
  ((0 : Int32) = 0 →
    ps_At (d + 1) 260 111 [(0, .ref 1131), (1, .int x1), (2, .int x2), (3, .int x3), (4, .int x4), (5, .int x5), (6, .int x6), (7, .int 0)] [] s Q) ∧
  ((0 : Int32) ≠ 0 →
    ps_Cl d 259 [.ref 1131, .int x1, .int 1, .int (x4 - 1), .int x3, .int x6] s (ps_rI (fun v1 s1 =>
      (v1 = 0 →
        ps_At (d + 1) 260 111 [(0, .ref 1131), (1, .int x1), (2, .int x2), (3, .int x3), (4, .int x4), (5, .int x5), (6, .int x6), (7, .int 0)] [] s1 Q) ∧
      (v1 ≠ 0 →
        ps_At (d + 1) 260 14 [(0, .ref 1131), (1, .int x1), (2, .int x2), (3, .int x3), (4, .int x4), (5, .int (x5 + (x4 - 1))), (6, .int (x6 + (x4 - 1)))] [] s1 Q))))) : ps_At (d + 1) 260 66 [(0, .ref 1131), (1, .int x1), (2, .int x2), (3, .int x3), (4, .int x4), (5, .int x5), (6, .int x6)] [] s Q :=
  ps_wp_at (stops := [(14, [0, 1, 2, 3, 4, 5, 6]), (66, [0, 1, 2, 3, 4, 5, 6]), (111, [0, 1, 2, 3, 4, 5, 6, 7]), (162, [0, 1, 2, 3, 4, 5, 6]), (190, [0, 2, 3, 5, 6])]) (n := 30) h rfl

theorem pg_260_111 {d : Nat} {x1 : Int32} {x2 : Int32} {x3 : Int32} {x4 : Int32} {x5 : Int32} {x6 : Int32} {x7 : Int32} {s : ps_S} {Q : Option Value → ps_S → Prop} (h :
  (x7 = 0 →
    ps_At (d + 1) 260 162 [(0, .ref 1131), (1, .int x1), (2, .int x2), (3, .int x3), (4, .int x4), (5, .int x5), (6, .int x6)] [] s Q) ∧
  (x7 ≠ 0 →
    ps_Cl d 219 [.ref 1131, .int x1] s (ps_rI (fun v1 s1 =>
      ps_Cl d 259 [.ref 1131, .int x1, .int x4, .int (v1 - x4), .int x3, .int x6] s1 (ps_rI (fun v2 s2 =>
        (v2 = 0 →
          ps_At (d + 1) 260 162 [(0, .ref 1131), (1, .int x1), (2, .int x2), (3, .int x3), (4, .int x4), (5, .int x5), (6, .int x6)] [] s2 Q) ∧
        (v2 ≠ 0 →
          ps_Cl d 219 [.ref 1131, .int x1] s2 (ps_rI (fun v3 s3 =>
            ps_At (d + 1) 260 14 [(0, .ref 1131), (1, .int x1), (2, .int x2), (3, .int x3), (4, .int x4), (5, .int (x5 + (x4 - 1))), (6, .int (x6 + (v3 - x4)))] [] s3 Q))))))))) : ps_At (d + 1) 260 111 [(0, .ref 1131), (1, .int x1), (2, .int x2), (3, .int x3), (4, .int x4), (5, .int x5), (6, .int x6), (7, .int x7)] [] s Q :=
  ps_wp_at (stops := [(14, [0, 1, 2, 3, 4, 5, 6]), (66, [0, 1, 2, 3, 4, 5, 6]), (111, [0, 1, 2, 3, 4, 5, 6, 7]), (162, [0, 1, 2, 3, 4, 5, 6]), (190, [0, 2, 3, 5, 6])]) (n := 32) h rfl

theorem pg_260_162 {d : Nat} {x1 : Int32} {x2 : Int32} {x3 : Int32} {x4 : Int32} {x5 : Int32} {x6 : Int32} {s : ps_S} {Q : Option Value → ps_S → Prop} (h :
  ps_Cl d 220 [.ref 1131, .int x2, .int x5] s (ps_rI (fun v1 s1 =>
    ps_Cl d 220 [.ref 1131, .int x3, .int x6] s1 (ps_rI (fun v2 s2 =>
      (v1 = v2 →
        ps_At (d + 1) 260 14 [(0, .ref 1131), (1, .int x1), (2, .int x2), (3, .int x3), (4, .int x4), (5, .int (x5 + 1)), (6, .int (x6 + 1))] [] s2 Q) ∧
      (v1 ≠ v2 →
        Q (some (.int 0)) s2)))))) : ps_At (d + 1) 260 162 [(0, .ref 1131), (1, .int x1), (2, .int x2), (3, .int x3), (4, .int x4), (5, .int x5), (6, .int x6)] [] s Q :=
  ps_wp_at (stops := [(14, [0, 1, 2, 3, 4, 5, 6]), (66, [0, 1, 2, 3, 4, 5, 6]), (111, [0, 1, 2, 3, 4, 5, 6, 7]), (162, [0, 1, 2, 3, 4, 5, 6]), (190, [0, 2, 3, 5, 6])]) (n := 16) h rfl

theorem pg_260_190 {d : Nat} {x2 : Int32} {x3 : Int32} {x5 : Int32} {x6 : Int32} {s : ps_S} {Q : Option Value → ps_S → Prop} (h :
  ps_Cl d 219 [.ref 1131, .int x2] s (ps_rI (fun v1 s1 =>
    (x5 ≠ v1 →
      Q (some (.int 0)) s1) ∧
    (x5 = v1 →
      ps_Cl d 219 [.ref 1131, .int x3] s1 (ps_rI (fun v2 s2 =>
        (x6 ≠ v2 →
          Q (some (.int 0)) s2) ∧
        (x6 = v2 →
          Q (some (.int 1)) s2))))))) : ps_At (d + 1) 260 190 [(0, .ref 1131), (2, .int x2), (3, .int x3), (5, .int x5), (6, .int x6)] [] s Q :=
  ps_wp_at (stops := [(14, [0, 1, 2, 3, 4, 5, 6]), (66, [0, 1, 2, 3, 4, 5, 6]), (111, [0, 1, 2, 3, 4, 5, 6, 7]), (162, [0, 1, 2, 3, 4, 5, 6]), (190, [0, 2, 3, 5, 6])]) (n := 19) h rfl

theorem ms_260_162 {x : Nat → Nat → Nat} {t : Int32} {d : Nat} {s : ps_S} {σ : mSig} {x1 : Int32} {x2 : Int32} {x3 : Int32} {Q : Option Value → ps_S → Prop} (k : ∀ (v : Int32), v &&& 1 = v → Q (some (.int v)) s) (n14 : Nat) (KH14 : ∀ (x4 : Int32) (x5 : Int32) (x6 : Int32), (mJ x t s) → (x1.toInt % 41 = 0) → (0 ≤ x1.toInt) → (x1.toInt < 27306) → (x2.toInt % 41 = 0) → (0 ≤ x2.toInt) → (x2.toInt < 27306) → (x3.toInt % 41 = 0) → (0 ≤ x3.toInt) → (x3.toInt < 27306) → (2 ≤ x4.toInt) → (x4.toInt ≤ (ps_a s 1134 (Int32.toNatClampNeg x1)).toInt) → (0 ≤ x5.toInt) → (x5.toInt ≤ (ps_a s 1134 (Int32.toNatClampNeg x2)).toInt) → (0 ≤ x6.toInt) → (x6.toInt ≤ (ps_a s 1134 (Int32.toNatClampNeg x3)).toInt) → (41 - x5.toInt ≤ (n14 : Int) - 1) → ps_At (d + 2) 260 14 [(0, .ref 1131), (1, .int x1), (2, .int x2), (3, .int x3), (4, .int x4), (5, .int x5), (6, .int x6)] [] s Q) (x4 : Int32) (x5 : Int32) (x6 : Int32) (J : mJ x t s) (i0_k : x1.toInt % 41 = 0) (i1_k : 0 ≤ x1.toInt) (i2_k : x1.toInt < 27306) (i3_k : x2.toInt % 41 = 0) (i4_k : 0 ≤ x2.toInt) (i5_k : x2.toInt < 27306) (i6_k : x3.toInt % 41 = 0) (i7_k : 0 ≤ x3.toInt) (i8_k : x3.toInt < 27306) (i9_k : 2 ≤ x4.toInt) (i10_k : x4.toInt ≤ (ps_a s 1134 (Int32.toNatClampNeg x1)).toInt) (i11_k : 0 ≤ x5.toInt) (i12_k : x5.toInt ≤ (ps_a s 1134 (Int32.toNatClampNeg x2)).toInt) (i13_k : 0 ≤ x6.toInt) (i14_k : x6.toInt ≤ (ps_a s 1134 (Int32.toNatClampNeg x3)).toInt) (i15_k : x5.toInt < (ps_a s 1134 (Int32.toNatClampNeg x2)).toInt) (i16_k : x6.toInt < (ps_a s 1134 (Int32.toNatClampNeg x3)).toInt) (hm14 : 41 - x5.toInt ≤ (n14 : Int)) : ps_At (d + 2) 260 162 [(0, .ref 1131), (1, .int x1), (2, .int x2), (3, .int x3), (4, .int x4), (5, .int x5), (6, .int x6)] [] s Q := by
  have r1_k : x1.toInt % 41 = 0 → x1.toInt < 27306 → 0 ≤ (ps_a s 1134 (Int32.toNatClampNeg x1)).toInt ∧ (ps_a s 1134 (Int32.toNatClampNeg x1)).toInt ≤ 40 := fun z1_k z2_k => mp_row (i := x1) J z1_k (show 0 ≤ x1.toInt from by omega) z2_k
  have r2_k : x2.toInt % 41 = 0 → x2.toInt < 27306 → 0 ≤ (ps_a s 1134 (Int32.toNatClampNeg x2)).toInt ∧ (ps_a s 1134 (Int32.toNatClampNeg x2)).toInt ≤ 40 := fun z1_k z2_k => mp_row (i := x2) J z1_k (show 0 ≤ x2.toInt from by omega) z2_k
  have r3_k : x3.toInt % 41 = 0 → x3.toInt < 27306 → 0 ≤ (ps_a s 1134 (Int32.toNatClampNeg x3)).toInt ∧ (ps_a s 1134 (Int32.toNatClampNeg x3)).toInt ≤ 40 := fun z1_k z2_k => mp_row (i := x3) J z1_k (show 0 ≤ x3.toInt from by omega) z2_k
  refine pg_260_162 (d := d + 1) ?_
  refine pg_220_0 ?_
  have a4_k : (x2 + 1).toInt = x2.toInt + (1 : Int) := xIa (show -2147483648 ≤ x2.toInt + (1 : Int) from by omega) (show x2.toInt + (1 : Int) < 2147483648 from by omega)
  have a5_k : ((x2 + 1) + x5).toInt = (x2 + 1).toInt + x5.toInt := xIa (show -2147483648 ≤ (x2 + 1).toInt + x5.toInt from by omega) (show (x2 + 1).toInt + x5.toInt < 2147483648 from by omega)
  refine ps_nd_i (show pm_in ((x2 + 1) + x5) 27400 = true from xgi (show 0 ≤ ((x2 + 1) + x5).toInt from by omega) (show ((x2 + 1) + x5).toInt < 27400 from by omega)) ?_
  have r6_k : ((x2 + 1) + x5).toInt % 41 = 0 → ((x2 + 1) + x5).toInt < 27306 → 0 ≤ (ps_a s 1134 (Int32.toNatClampNeg ((x2 + 1) + x5))).toInt ∧ (ps_a s 1134 (Int32.toNatClampNeg ((x2 + 1) + x5))).toInt ≤ 40 := fun z1_k z2_k => mp_row (i := ((x2 + 1) + x5)) J z1_k (show 0 ≤ ((x2 + 1) + x5).toInt from by omega) z2_k
  refine pg_220_0 ?_
  have a7_k : (x3 + 1).toInt = x3.toInt + (1 : Int) := xIa (show -2147483648 ≤ x3.toInt + (1 : Int) from by omega) (show x3.toInt + (1 : Int) < 2147483648 from by omega)
  have a8_k : ((x3 + 1) + x6).toInt = (x3 + 1).toInt + x6.toInt := xIa (show -2147483648 ≤ (x3 + 1).toInt + x6.toInt from by omega) (show (x3 + 1).toInt + x6.toInt < 2147483648 from by omega)
  refine ps_nd_i (show pm_in ((x3 + 1) + x6) 27400 = true from xgi (show 0 ≤ ((x3 + 1) + x6).toInt from by omega) (show ((x3 + 1) + x6).toInt < 27400 from by omega)) ?_
  have r9_k : ((x3 + 1) + x6).toInt % 41 = 0 → ((x3 + 1) + x6).toInt < 27306 → 0 ≤ (ps_a s 1134 (Int32.toNatClampNeg ((x3 + 1) + x6))).toInt ∧ (ps_a s 1134 (Int32.toNatClampNeg ((x3 + 1) + x6))).toInt ≤ 40 := fun z1_k z2_k => mp_row (i := ((x3 + 1) + x6)) J z1_k (show 0 ≤ ((x3 + 1) + x6).toInt from by omega) z2_k
  refine And.intro (fun h10_k => ?_) (fun h10_k => ?_)
  · have f11_k : (ps_a s 1134 (Int32.toNatClampNeg ((x2 + 1) + x5))).toInt = (ps_a s 1134 (Int32.toNatClampNeg ((x3 + 1) + x6))).toInt := xeq h10_k
    have a12_k : (x5 + 1).toInt = x5.toInt + (1 : Int) := xIa (show -2147483648 ≤ x5.toInt + (1 : Int) from by omega) (show x5.toInt + (1 : Int) < 2147483648 from by omega)
    have a13_k : (x6 + 1).toInt = x6.toInt + (1 : Int) := xIa (show -2147483648 ≤ x6.toInt + (1 : Int) from by omega) (show x6.toInt + (1 : Int) < 2147483648 from by omega)
    exact KH14 x4 (x5 + 1) (x6 + 1) J (show x1.toInt % 41 = 0 from by omega) (show 0 ≤ x1.toInt from by omega) (show x1.toInt < 27306 from by omega) (show x2.toInt % 41 = 0 from by omega) (show 0 ≤ x2.toInt from by omega) (show x2.toInt < 27306 from by omega) (show x3.toInt % 41 = 0 from by omega) (show 0 ≤ x3.toInt from by omega) (show x3.toInt < 27306 from by omega) (show 2 ≤ x4.toInt from by omega) (show x4.toInt ≤ (ps_a s 1134 (Int32.toNatClampNeg x1)).toInt from by omega) (show 0 ≤ (x5 + 1).toInt from by omega) (show (x5 + 1).toInt ≤ (ps_a s 1134 (Int32.toNatClampNeg x2)).toInt from by omega) (show 0 ≤ (x6 + 1).toInt from by omega) (show (x6 + 1).toInt ≤ (ps_a s 1134 (Int32.toNatClampNeg x3)).toInt from by omega) (show 41 - (x5 + 1).toInt ≤ (n14 : Int) - 1 from by omega)
  · have f14_k : (ps_a s 1134 (Int32.toNatClampNeg ((x2 + 1) + x5))).toInt ≠ (ps_a s 1134 (Int32.toNatClampNeg ((x3 + 1) + x6))).toInt := xne h10_k
    exact k (0 : Int32) (by decide)

theorem ms_260_111 {x : Nat → Nat → Nat} {t : Int32} {d : Nat} {s : ps_S} {σ : mSig} {x1 : Int32} {x2 : Int32} {x3 : Int32} {Q : Option Value → ps_S → Prop} (k : ∀ (v : Int32), v &&& 1 = v → Q (some (.int v)) s) (n14 : Nat) (KH14 : ∀ (x4 : Int32) (x5 : Int32) (x6 : Int32), (mJ x t s) → (x1.toInt % 41 = 0) → (0 ≤ x1.toInt) → (x1.toInt < 27306) → (x2.toInt % 41 = 0) → (0 ≤ x2.toInt) → (x2.toInt < 27306) → (x3.toInt % 41 = 0) → (0 ≤ x3.toInt) → (x3.toInt < 27306) → (2 ≤ x4.toInt) → (x4.toInt ≤ (ps_a s 1134 (Int32.toNatClampNeg x1)).toInt) → (0 ≤ x5.toInt) → (x5.toInt ≤ (ps_a s 1134 (Int32.toNatClampNeg x2)).toInt) → (0 ≤ x6.toInt) → (x6.toInt ≤ (ps_a s 1134 (Int32.toNatClampNeg x3)).toInt) → (41 - x5.toInt ≤ (n14 : Int) - 1) → ps_At (d + 2) 260 14 [(0, .ref 1131), (1, .int x1), (2, .int x2), (3, .int x3), (4, .int x4), (5, .int x5), (6, .int x6)] [] s Q) (x4 : Int32) (x5 : Int32) (x6 : Int32) (x7 : Int32) (J : mJ x t s) (i0_k : x1.toInt % 41 = 0) (i1_k : 0 ≤ x1.toInt) (i2_k : x1.toInt < 27306) (i3_k : x2.toInt % 41 = 0) (i4_k : 0 ≤ x2.toInt) (i5_k : x2.toInt < 27306) (i6_k : x3.toInt % 41 = 0) (i7_k : 0 ≤ x3.toInt) (i8_k : x3.toInt < 27306) (i9_k : 2 ≤ x4.toInt) (i10_k : x4.toInt ≤ (ps_a s 1134 (Int32.toNatClampNeg x1)).toInt) (i11_k : 0 ≤ x5.toInt) (i12_k : x5.toInt ≤ (ps_a s 1134 (Int32.toNatClampNeg x2)).toInt) (i13_k : 0 ≤ x6.toInt) (i14_k : x6.toInt ≤ (ps_a s 1134 (Int32.toNatClampNeg x3)).toInt) (i15_k : x5.toInt < (ps_a s 1134 (Int32.toNatClampNeg x2)).toInt) (i16_k : x6.toInt < (ps_a s 1134 (Int32.toNatClampNeg x3)).toInt) (i17_k : x7.toInt = 0 ∨ x5.toInt + (x4.toInt - 1) ≤ (ps_a s 1134 (Int32.toNatClampNeg x2)).toInt) (hm14 : 41 - x5.toInt ≤ (n14 : Int)) : ps_At (d + 2) 260 111 [(0, .ref 1131), (1, .int x1), (2, .int x2), (3, .int x3), (4, .int x4), (5, .int x5), (6, .int x6), (7, .int x7)] [] s Q := by
  have r1_k : x1.toInt % 41 = 0 → x1.toInt < 27306 → 0 ≤ (ps_a s 1134 (Int32.toNatClampNeg x1)).toInt ∧ (ps_a s 1134 (Int32.toNatClampNeg x1)).toInt ≤ 40 := fun z1_k z2_k => mp_row (i := x1) J z1_k (show 0 ≤ x1.toInt from by omega) z2_k
  have r2_k : x2.toInt % 41 = 0 → x2.toInt < 27306 → 0 ≤ (ps_a s 1134 (Int32.toNatClampNeg x2)).toInt ∧ (ps_a s 1134 (Int32.toNatClampNeg x2)).toInt ≤ 40 := fun z1_k z2_k => mp_row (i := x2) J z1_k (show 0 ≤ x2.toInt from by omega) z2_k
  have r3_k : x3.toInt % 41 = 0 → x3.toInt < 27306 → 0 ≤ (ps_a s 1134 (Int32.toNatClampNeg x3)).toInt ∧ (ps_a s 1134 (Int32.toNatClampNeg x3)).toInt ≤ 40 := fun z1_k z2_k => mp_row (i := x3) J z1_k (show 0 ≤ x3.toInt from by omega) z2_k
  refine pg_260_111 (d := d + 1) ?_
  refine And.intro (fun h4_k => ?_) (fun h4_k => ?_)
  · have f5_k : x7.toInt = (0 : Int) := xeq h4_k
    exact ms_260_162 (x1 := x1) (x2 := x2) (x3 := x3) (σ := σ) k n14 KH14 x4 x5 x6 J (show x1.toInt % 41 = 0 from by omega) (show 0 ≤ x1.toInt from by omega) (show x1.toInt < 27306 from by omega) (show x2.toInt % 41 = 0 from by omega) (show 0 ≤ x2.toInt from by omega) (show x2.toInt < 27306 from by omega) (show x3.toInt % 41 = 0 from by omega) (show 0 ≤ x3.toInt from by omega) (show x3.toInt < 27306 from by omega) (show 2 ≤ x4.toInt from by omega) (show x4.toInt ≤ (ps_a s 1134 (Int32.toNatClampNeg x1)).toInt from by omega) (show 0 ≤ x5.toInt from by omega) (show x5.toInt ≤ (ps_a s 1134 (Int32.toNatClampNeg x2)).toInt from by omega) (show 0 ≤ x6.toInt from by omega) (show x6.toInt ≤ (ps_a s 1134 (Int32.toNatClampNeg x3)).toInt from by omega) (show x5.toInt < (ps_a s 1134 (Int32.toNatClampNeg x2)).toInt from by omega) (show x6.toInt < (ps_a s 1134 (Int32.toNatClampNeg x3)).toInt from by omega) (show 41 - x5.toInt ≤ (n14 : Int) from by omega)
  · have f6_k : x7.toInt ≠ (0 : Int) := xne h4_k
    refine pg_219_0 ?_
    refine ps_nd_i (show pm_in x1 27400 = true from xgi (show 0 ≤ x1.toInt from by omega) (show x1.toInt < 27400 from by omega)) ?_
    have a7_k : ((ps_a s 1134 (Int32.toNatClampNeg x1)) - x4).toInt = (ps_a s 1134 (Int32.toNatClampNeg x1)).toInt - x4.toInt := xIs (show -2147483648 ≤ (ps_a s 1134 (Int32.toNatClampNeg x1)).toInt - x4.toInt from by omega) (show (ps_a s 1134 (Int32.toNatClampNeg x1)).toInt - x4.toInt < 2147483648 from by omega)
    refine ms_259 J (show x1.toInt % 41 = 0 from by omega) (show 0 ≤ x1.toInt from by omega) (show x1.toInt < 27306 from by omega) (show x3.toInt % 41 = 0 from by omega) (show 0 ≤ x3.toInt from by omega) (show x3.toInt < 27306 from by omega) (show 0 ≤ x4.toInt from by omega) (show x4.toInt ≤ 41 from by omega) (show 0 ≤ ((ps_a s 1134 (Int32.toNatClampNeg x1)) - x4).toInt from by omega) (show ((ps_a s 1134 (Int32.toNatClampNeg x1)) - x4).toInt ≤ 41 from by omega) (show 0 ≤ x6.toInt from by omega) (show x6.toInt ≤ 41 from by omega) (fun v8 p8_0 b8 => ?_)
    have p8_0' : v8.toInt = 0 ∨ x6.toInt + ((ps_a s 1134 (Int32.toNatClampNeg x1)) - x4).toInt ≤ (ps_a s 1134 (Int32.toNatClampNeg x3)).toInt := p8_0
    refine And.intro (fun h9_k => ?_) (fun h9_k => ?_)
    · have f10_k : v8.toInt = (0 : Int) := xeq h9_k
      exact ms_260_162 (x1 := x1) (x2 := x2) (x3 := x3) (σ := σ) k n14 KH14 x4 x5 x6 J (show x1.toInt % 41 = 0 from by omega) (show 0 ≤ x1.toInt from by omega) (show x1.toInt < 27306 from by omega) (show x2.toInt % 41 = 0 from by omega) (show 0 ≤ x2.toInt from by omega) (show x2.toInt < 27306 from by omega) (show x3.toInt % 41 = 0 from by omega) (show 0 ≤ x3.toInt from by omega) (show x3.toInt < 27306 from by omega) (show 2 ≤ x4.toInt from by omega) (show x4.toInt ≤ (ps_a s 1134 (Int32.toNatClampNeg x1)).toInt from by omega) (show 0 ≤ x5.toInt from by omega) (show x5.toInt ≤ (ps_a s 1134 (Int32.toNatClampNeg x2)).toInt from by omega) (show 0 ≤ x6.toInt from by omega) (show x6.toInt ≤ (ps_a s 1134 (Int32.toNatClampNeg x3)).toInt from by omega) (show x5.toInt < (ps_a s 1134 (Int32.toNatClampNeg x2)).toInt from by omega) (show x6.toInt < (ps_a s 1134 (Int32.toNatClampNeg x3)).toInt from by omega) (show 41 - x5.toInt ≤ (n14 : Int) from by omega)
    · have f11_k : v8.toInt ≠ (0 : Int) := xne h9_k
      have a12_k : (x4 - 1).toInt = x4.toInt - (1 : Int) := xIs (show -2147483648 ≤ x4.toInt - (1 : Int) from by omega) (show x4.toInt - (1 : Int) < 2147483648 from by omega)
      have a13_k : (x5 + (x4 - 1)).toInt = x5.toInt + (x4 - 1).toInt := xIa (show -2147483648 ≤ x5.toInt + (x4 - 1).toInt from by omega) (show x5.toInt + (x4 - 1).toInt < 2147483648 from by omega)
      refine pg_219_0 ?_
      refine ps_nd_i (show pm_in x1 27400 = true from xgi (show 0 ≤ x1.toInt from by omega) (show x1.toInt < 27400 from by omega)) ?_
      have a14_k : (x6 + ((ps_a s 1134 (Int32.toNatClampNeg x1)) - x4)).toInt = x6.toInt + ((ps_a s 1134 (Int32.toNatClampNeg x1)) - x4).toInt := xIa (show -2147483648 ≤ x6.toInt + ((ps_a s 1134 (Int32.toNatClampNeg x1)) - x4).toInt from by omega) (show x6.toInt + ((ps_a s 1134 (Int32.toNatClampNeg x1)) - x4).toInt < 2147483648 from by omega)
      exact KH14 x4 (x5 + (x4 - 1)) (x6 + ((ps_a s 1134 (Int32.toNatClampNeg x1)) - x4)) J (show x1.toInt % 41 = 0 from by omega) (show 0 ≤ x1.toInt from by omega) (show x1.toInt < 27306 from by omega) (show x2.toInt % 41 = 0 from by omega) (show 0 ≤ x2.toInt from by omega) (show x2.toInt < 27306 from by omega) (show x3.toInt % 41 = 0 from by omega) (show 0 ≤ x3.toInt from by omega) (show x3.toInt < 27306 from by omega) (show 2 ≤ x4.toInt from by omega) (show x4.toInt ≤ (ps_a s 1134 (Int32.toNatClampNeg x1)).toInt from by omega) (show 0 ≤ (x5 + (x4 - 1)).toInt from by omega) (show (x5 + (x4 - 1)).toInt ≤ (ps_a s 1134 (Int32.toNatClampNeg x2)).toInt from by omega) (show 0 ≤ (x6 + ((ps_a s 1134 (Int32.toNatClampNeg x1)) - x4)).toInt from by omega) (show (x6 + ((ps_a s 1134 (Int32.toNatClampNeg x1)) - x4)).toInt ≤ (ps_a s 1134 (Int32.toNatClampNeg x3)).toInt from by omega) (show 41 - (x5 + (x4 - 1)).toInt ≤ (n14 : Int) - 1 from by omega)

theorem ms_260_66 {x : Nat → Nat → Nat} {t : Int32} {d : Nat} {s : ps_S} {σ : mSig} {x1 : Int32} {x2 : Int32} {x3 : Int32} {Q : Option Value → ps_S → Prop} (k : ∀ (v : Int32), v &&& 1 = v → Q (some (.int v)) s) (n14 : Nat) (KH14 : ∀ (x4 : Int32) (x5 : Int32) (x6 : Int32), (mJ x t s) → (x1.toInt % 41 = 0) → (0 ≤ x1.toInt) → (x1.toInt < 27306) → (x2.toInt % 41 = 0) → (0 ≤ x2.toInt) → (x2.toInt < 27306) → (x3.toInt % 41 = 0) → (0 ≤ x3.toInt) → (x3.toInt < 27306) → (2 ≤ x4.toInt) → (x4.toInt ≤ (ps_a s 1134 (Int32.toNatClampNeg x1)).toInt) → (0 ≤ x5.toInt) → (x5.toInt ≤ (ps_a s 1134 (Int32.toNatClampNeg x2)).toInt) → (0 ≤ x6.toInt) → (x6.toInt ≤ (ps_a s 1134 (Int32.toNatClampNeg x3)).toInt) → (41 - x5.toInt ≤ (n14 : Int) - 1) → ps_At (d + 2) 260 14 [(0, .ref 1131), (1, .int x1), (2, .int x2), (3, .int x3), (4, .int x4), (5, .int x5), (6, .int x6)] [] s Q) (x4 : Int32) (x5 : Int32) (x6 : Int32) (J : mJ x t s) (i0_k : x1.toInt % 41 = 0) (i1_k : 0 ≤ x1.toInt) (i2_k : x1.toInt < 27306) (i3_k : x2.toInt % 41 = 0) (i4_k : 0 ≤ x2.toInt) (i5_k : x2.toInt < 27306) (i6_k : x3.toInt % 41 = 0) (i7_k : 0 ≤ x3.toInt) (i8_k : x3.toInt < 27306) (i9_k : 2 ≤ x4.toInt) (i10_k : x4.toInt ≤ (ps_a s 1134 (Int32.toNatClampNeg x1)).toInt) (i11_k : 0 ≤ x5.toInt) (i12_k : x5.toInt ≤ (ps_a s 1134 (Int32.toNatClampNeg x2)).toInt) (i13_k : 0 ≤ x6.toInt) (i14_k : x6.toInt ≤ (ps_a s 1134 (Int32.toNatClampNeg x3)).toInt) (i15_k : x5.toInt < (ps_a s 1134 (Int32.toNatClampNeg x2)).toInt) (i16_k : x6.toInt < (ps_a s 1134 (Int32.toNatClampNeg x3)).toInt) (hm14 : 41 - x5.toInt ≤ (n14 : Int)) : ps_At (d + 2) 260 66 [(0, .ref 1131), (1, .int x1), (2, .int x2), (3, .int x3), (4, .int x4), (5, .int x5), (6, .int x6)] [] s Q := by
  have r1_k : x1.toInt % 41 = 0 → x1.toInt < 27306 → 0 ≤ (ps_a s 1134 (Int32.toNatClampNeg x1)).toInt ∧ (ps_a s 1134 (Int32.toNatClampNeg x1)).toInt ≤ 40 := fun z1_k z2_k => mp_row (i := x1) J z1_k (show 0 ≤ x1.toInt from by omega) z2_k
  have r2_k : x2.toInt % 41 = 0 → x2.toInt < 27306 → 0 ≤ (ps_a s 1134 (Int32.toNatClampNeg x2)).toInt ∧ (ps_a s 1134 (Int32.toNatClampNeg x2)).toInt ≤ 40 := fun z1_k z2_k => mp_row (i := x2) J z1_k (show 0 ≤ x2.toInt from by omega) z2_k
  have r3_k : x3.toInt % 41 = 0 → x3.toInt < 27306 → 0 ≤ (ps_a s 1134 (Int32.toNatClampNeg x3)).toInt ∧ (ps_a s 1134 (Int32.toNatClampNeg x3)).toInt ≤ 40 := fun z1_k z2_k => mp_row (i := x3) J z1_k (show 0 ≤ x3.toInt from by omega) z2_k
  refine pg_260_66 (d := d + 1) ?_
  refine And.intro (fun h4_k => ?_) (fun h4_k => ?_)
  · exact ms_260_111 (x1 := x1) (x2 := x2) (x3 := x3) (σ := σ) k n14 KH14 x4 x5 x6 (0) J (show x1.toInt % 41 = 0 from by omega) (show 0 ≤ x1.toInt from by omega) (show x1.toInt < 27306 from by omega) (show x2.toInt % 41 = 0 from by omega) (show 0 ≤ x2.toInt from by omega) (show x2.toInt < 27306 from by omega) (show x3.toInt % 41 = 0 from by omega) (show 0 ≤ x3.toInt from by omega) (show x3.toInt < 27306 from by omega) (show 2 ≤ x4.toInt from by omega) (show x4.toInt ≤ (ps_a s 1134 (Int32.toNatClampNeg x1)).toInt from by omega) (show 0 ≤ x5.toInt from by omega) (show x5.toInt ≤ (ps_a s 1134 (Int32.toNatClampNeg x2)).toInt from by omega) (show 0 ≤ x6.toInt from by omega) (show x6.toInt ≤ (ps_a s 1134 (Int32.toNatClampNeg x3)).toInt from by omega) (show x5.toInt < (ps_a s 1134 (Int32.toNatClampNeg x2)).toInt from by omega) (show x6.toInt < (ps_a s 1134 (Int32.toNatClampNeg x3)).toInt from by omega) (show (0 : Int) = 0 ∨ x5.toInt + (x4.toInt - 1) ≤ (ps_a s 1134 (Int32.toNatClampNeg x2)).toInt from by omega) (show 41 - x5.toInt ≤ (n14 : Int) from by omega)
  · exact absurd (show (0 : Int32) ≠ (0 : Int32) from h4_k) (by decide)

theorem ms_260_190 {x : Nat → Nat → Nat} {t : Int32} {d : Nat} {s : ps_S} {σ : mSig} {x1 : Int32} {x2 : Int32} {x3 : Int32} {Q : Option Value → ps_S → Prop} (k : ∀ (v : Int32), v &&& 1 = v → Q (some (.int v)) s) (x5 : Int32) (x6 : Int32) (J : mJ x t s) (i0_k : x2.toInt % 41 = 0) (i1_k : 0 ≤ x2.toInt) (i2_k : x2.toInt < 27306) (i3_k : x3.toInt % 41 = 0) (i4_k : 0 ≤ x3.toInt) (i5_k : x3.toInt < 27306) (i6_k : 0 ≤ x5.toInt) (i7_k : x5.toInt ≤ (ps_a s 1134 (Int32.toNatClampNeg x2)).toInt) (i8_k : 0 ≤ x6.toInt) (i9_k : x6.toInt ≤ (ps_a s 1134 (Int32.toNatClampNeg x3)).toInt) : ps_At (d + 2) 260 190 [(0, .ref 1131), (2, .int x2), (3, .int x3), (5, .int x5), (6, .int x6)] [] s Q := by
  have r1_k : x2.toInt % 41 = 0 → x2.toInt < 27306 → 0 ≤ (ps_a s 1134 (Int32.toNatClampNeg x2)).toInt ∧ (ps_a s 1134 (Int32.toNatClampNeg x2)).toInt ≤ 40 := fun z1_k z2_k => mp_row (i := x2) J z1_k (show 0 ≤ x2.toInt from by omega) z2_k
  have r2_k : x3.toInt % 41 = 0 → x3.toInt < 27306 → 0 ≤ (ps_a s 1134 (Int32.toNatClampNeg x3)).toInt ∧ (ps_a s 1134 (Int32.toNatClampNeg x3)).toInt ≤ 40 := fun z1_k z2_k => mp_row (i := x3) J z1_k (show 0 ≤ x3.toInt from by omega) z2_k
  refine pg_260_190 (d := d + 1) ?_
  refine pg_219_0 ?_
  refine ps_nd_i (show pm_in x2 27400 = true from xgi (show 0 ≤ x2.toInt from by omega) (show x2.toInt < 27400 from by omega)) ?_
  refine And.intro (fun h3_k => ?_) (fun h3_k => ?_)
  · have f4_k : x5.toInt ≠ (ps_a s 1134 (Int32.toNatClampNeg x2)).toInt := xne h3_k
    exact k (0 : Int32) (by decide)
  · have f5_k : x5.toInt = (ps_a s 1134 (Int32.toNatClampNeg x2)).toInt := xeq h3_k
    refine pg_219_0 ?_
    refine ps_nd_i (show pm_in x3 27400 = true from xgi (show 0 ≤ x3.toInt from by omega) (show x3.toInt < 27400 from by omega)) ?_
    refine And.intro (fun h6_k => ?_) (fun h6_k => ?_)
    · have f7_k : x6.toInt ≠ (ps_a s 1134 (Int32.toNatClampNeg x3)).toInt := xne h6_k
      exact k (0 : Int32) (by decide)
    · have f8_k : x6.toInt = (ps_a s 1134 (Int32.toNatClampNeg x3)).toInt := xeq h6_k
      exact k (1 : Int32) (by decide)

theorem ms_260_14 {x : Nat → Nat → Nat} {t : Int32} {d : Nat} {s : ps_S} {σ : mSig} {x1 : Int32} {x2 : Int32} {x3 : Int32} {Q : Option Value → ps_S → Prop} (k : ∀ (v : Int32), v &&& 1 = v → Q (some (.int v)) s) : ∀ (n : Nat) (x4 : Int32) (x5 : Int32) (x6 : Int32), (mJ x t s) → (x1.toInt % 41 = 0) → (0 ≤ x1.toInt) → (x1.toInt < 27306) → (x2.toInt % 41 = 0) → (0 ≤ x2.toInt) → (x2.toInt < 27306) → (x3.toInt % 41 = 0) → (0 ≤ x3.toInt) → (x3.toInt < 27306) → (2 ≤ x4.toInt) → (x4.toInt ≤ (ps_a s 1134 (Int32.toNatClampNeg x1)).toInt) → (0 ≤ x5.toInt) → (x5.toInt ≤ (ps_a s 1134 (Int32.toNatClampNeg x2)).toInt) → (0 ≤ x6.toInt) → (x6.toInt ≤ (ps_a s 1134 (Int32.toNatClampNeg x3)).toInt) → 41 - x5.toInt ≤ (n : Int) → ps_At (d + 2) 260 14 [(0, .ref 1131), (1, .int x1), (2, .int x2), (3, .int x3), (4, .int x4), (5, .int x5), (6, .int x6)] [] s Q := by
  refine xstr (fun n ih => ?_)
  intro x4 x5 x6 J i0_k i1_k i2_k i3_k i4_k i5_k i6_k i7_k i8_k i9_k i10_k i11_k i12_k i13_k i14_k hm
  have r1_k : x1.toInt % 41 = 0 → x1.toInt < 27306 → 0 ≤ (ps_a s 1134 (Int32.toNatClampNeg x1)).toInt ∧ (ps_a s 1134 (Int32.toNatClampNeg x1)).toInt ≤ 40 := fun z1_k z2_k => mp_row (i := x1) J z1_k (show 0 ≤ x1.toInt from by omega) z2_k
  have r2_k : x2.toInt % 41 = 0 → x2.toInt < 27306 → 0 ≤ (ps_a s 1134 (Int32.toNatClampNeg x2)).toInt ∧ (ps_a s 1134 (Int32.toNatClampNeg x2)).toInt ≤ 40 := fun z1_k z2_k => mp_row (i := x2) J z1_k (show 0 ≤ x2.toInt from by omega) z2_k
  have r3_k : x3.toInt % 41 = 0 → x3.toInt < 27306 → 0 ≤ (ps_a s 1134 (Int32.toNatClampNeg x3)).toInt ∧ (ps_a s 1134 (Int32.toNatClampNeg x3)).toInt ≤ 40 := fun z1_k z2_k => mp_row (i := x3) J z1_k (show 0 ≤ x3.toInt from by omega) z2_k
  refine pg_260_14 (d := d + 1) ?_
  refine pg_219_0 ?_
  refine ps_nd_i (show pm_in x2 27400 = true from xgi (show 0 ≤ x2.toInt from by omega) (show x2.toInt < 27400 from by omega)) ?_
  refine And.intro (fun h4_k => ?_) (fun h4_k => ?_)
  · have f5_k : (ps_a s 1134 (Int32.toNatClampNeg x2)).toInt ≤ x5.toInt := xle h4_k
    exact ms_260_190 (x1 := x1) (x2 := x2) (x3 := x3) (σ := σ) k  x5 x6 J (show x2.toInt % 41 = 0 from by omega) (show 0 ≤ x2.toInt from by omega) (show x2.toInt < 27306 from by omega) (show x3.toInt % 41 = 0 from by omega) (show 0 ≤ x3.toInt from by omega) (show x3.toInt < 27306 from by omega) (show 0 ≤ x5.toInt from by omega) (show x5.toInt ≤ (ps_a s 1134 (Int32.toNatClampNeg x2)).toInt from by omega) (show 0 ≤ x6.toInt from by omega) (show x6.toInt ≤ (ps_a s 1134 (Int32.toNatClampNeg x3)).toInt from by omega)
  · have f6_k : x5.toInt < (ps_a s 1134 (Int32.toNatClampNeg x2)).toInt := xlt h4_k
    refine pg_219_0 ?_
    refine ps_nd_i (show pm_in x3 27400 = true from xgi (show 0 ≤ x3.toInt from by omega) (show x3.toInt < 27400 from by omega)) ?_
    refine And.intro (fun h7_k => ?_) (fun h7_k => ?_)
    · have f8_k : (ps_a s 1134 (Int32.toNatClampNeg x3)).toInt ≤ x6.toInt := xle h7_k
      exact ms_260_190 (x1 := x1) (x2 := x2) (x3 := x3) (σ := σ) k  x5 x6 J (show x2.toInt % 41 = 0 from by omega) (show 0 ≤ x2.toInt from by omega) (show x2.toInt < 27306 from by omega) (show x3.toInt % 41 = 0 from by omega) (show 0 ≤ x3.toInt from by omega) (show x3.toInt < 27306 from by omega) (show 0 ≤ x5.toInt from by omega) (show x5.toInt ≤ (ps_a s 1134 (Int32.toNatClampNeg x2)).toInt from by omega) (show 0 ≤ x6.toInt from by omega) (show x6.toInt ≤ (ps_a s 1134 (Int32.toNatClampNeg x3)).toInt from by omega)
    · have f9_k : x6.toInt < (ps_a s 1134 (Int32.toNatClampNeg x3)).toInt := xlt h7_k
      refine pg_220_0 ?_
      have a10_k : (x2 + 1).toInt = x2.toInt + (1 : Int) := xIa (show -2147483648 ≤ x2.toInt + (1 : Int) from by omega) (show x2.toInt + (1 : Int) < 2147483648 from by omega)
      have a11_k : ((x2 + 1) + x5).toInt = (x2 + 1).toInt + x5.toInt := xIa (show -2147483648 ≤ (x2 + 1).toInt + x5.toInt from by omega) (show (x2 + 1).toInt + x5.toInt < 2147483648 from by omega)
      refine ps_nd_i (show pm_in ((x2 + 1) + x5) 27400 = true from xgi (show 0 ≤ ((x2 + 1) + x5).toInt from by omega) (show ((x2 + 1) + x5).toInt < 27400 from by omega)) ?_
      have r12_k : ((x2 + 1) + x5).toInt % 41 = 0 → ((x2 + 1) + x5).toInt < 27306 → 0 ≤ (ps_a s 1134 (Int32.toNatClampNeg ((x2 + 1) + x5))).toInt ∧ (ps_a s 1134 (Int32.toNatClampNeg ((x2 + 1) + x5))).toInt ≤ 40 := fun z1_k z2_k => mp_row (i := ((x2 + 1) + x5)) J z1_k (show 0 ≤ ((x2 + 1) + x5).toInt from by omega) z2_k
      refine And.intro (fun h13_k => ?_) (fun h13_k => ?_)
      · have f14_k : (ps_a s 1134 (Int32.toNatClampNeg ((x2 + 1) + x5))).toInt < (20 : Int) := xlt h13_k
        exact ms_260_66 (x1 := x1) (x2 := x2) (x3 := x3) (σ := σ) k n (fun x4z x5z x6z Jz i0z i1z i2z i3z i4z i5z i6z i7z i8z i9z i10z i11z i12z i13z i14z hm => ih (n - 1) (show n - 1 < n from by omega) x4z x5z x6z Jz i0z i1z i2z i3z i4z i5z i6z i7z i8z i9z i10z i11z i12z i13z i14z (show _ ≤ ((n - 1 : Nat) : Int) from by omega)) x4 x5 x6 J (show x1.toInt % 41 = 0 from by omega) (show 0 ≤ x1.toInt from by omega) (show x1.toInt < 27306 from by omega) (show x2.toInt % 41 = 0 from by omega) (show 0 ≤ x2.toInt from by omega) (show x2.toInt < 27306 from by omega) (show x3.toInt % 41 = 0 from by omega) (show 0 ≤ x3.toInt from by omega) (show x3.toInt < 27306 from by omega) (show 2 ≤ x4.toInt from by omega) (show x4.toInt ≤ (ps_a s 1134 (Int32.toNatClampNeg x1)).toInt from by omega) (show 0 ≤ x5.toInt from by omega) (show x5.toInt ≤ (ps_a s 1134 (Int32.toNatClampNeg x2)).toInt from by omega) (show 0 ≤ x6.toInt from by omega) (show x6.toInt ≤ (ps_a s 1134 (Int32.toNatClampNeg x3)).toInt from by omega) (show x5.toInt < (ps_a s 1134 (Int32.toNatClampNeg x2)).toInt from by omega) (show x6.toInt < (ps_a s 1134 (Int32.toNatClampNeg x3)).toInt from by omega) (show 41 - x5.toInt ≤ ((n : Nat) : Int) from by omega)
      · have f15_k : (20 : Int) ≤ (ps_a s 1134 (Int32.toNatClampNeg ((x2 + 1) + x5))).toInt := xle h13_k
        have a16_k : (x4 - 1).toInt = x4.toInt - (1 : Int) := xIs (show -2147483648 ≤ x4.toInt - (1 : Int) from by omega) (show x4.toInt - (1 : Int) < 2147483648 from by omega)
        refine ms_259 J (show x1.toInt % 41 = 0 from by omega) (show 0 ≤ x1.toInt from by omega) (show x1.toInt < 27306 from by omega) (show x2.toInt % 41 = 0 from by omega) (show 0 ≤ x2.toInt from by omega) (show x2.toInt < 27306 from by omega) (show 0 ≤ (1 : Int) from by omega) (show (1 : Int) ≤ 41 from by omega) (show 0 ≤ (x4 - 1).toInt from by omega) (show (x4 - 1).toInt ≤ 41 from by omega) (show 0 ≤ x5.toInt from by omega) (show x5.toInt ≤ 41 from by omega) (fun v17 p17_0 b17 => ?_)
        have p17_0' : v17.toInt = 0 ∨ x5.toInt + (x4 - 1).toInt ≤ (ps_a s 1134 (Int32.toNatClampNeg x2)).toInt := p17_0
        refine And.intro (fun h18_k => ?_) (fun h18_k => ?_)
        · have f19_k : v17.toInt = (0 : Int) := xeq h18_k
          exact ms_260_66 (x1 := x1) (x2 := x2) (x3 := x3) (σ := σ) k n (fun x4z x5z x6z Jz i0z i1z i2z i3z i4z i5z i6z i7z i8z i9z i10z i11z i12z i13z i14z hm => ih (n - 1) (show n - 1 < n from by omega) x4z x5z x6z Jz i0z i1z i2z i3z i4z i5z i6z i7z i8z i9z i10z i11z i12z i13z i14z (show _ ≤ ((n - 1 : Nat) : Int) from by omega)) x4 x5 x6 J (show x1.toInt % 41 = 0 from by omega) (show 0 ≤ x1.toInt from by omega) (show x1.toInt < 27306 from by omega) (show x2.toInt % 41 = 0 from by omega) (show 0 ≤ x2.toInt from by omega) (show x2.toInt < 27306 from by omega) (show x3.toInt % 41 = 0 from by omega) (show 0 ≤ x3.toInt from by omega) (show x3.toInt < 27306 from by omega) (show 2 ≤ x4.toInt from by omega) (show x4.toInt ≤ (ps_a s 1134 (Int32.toNatClampNeg x1)).toInt from by omega) (show 0 ≤ x5.toInt from by omega) (show x5.toInt ≤ (ps_a s 1134 (Int32.toNatClampNeg x2)).toInt from by omega) (show 0 ≤ x6.toInt from by omega) (show x6.toInt ≤ (ps_a s 1134 (Int32.toNatClampNeg x3)).toInt from by omega) (show x5.toInt < (ps_a s 1134 (Int32.toNatClampNeg x2)).toInt from by omega) (show x6.toInt < (ps_a s 1134 (Int32.toNatClampNeg x3)).toInt from by omega) (show 41 - x5.toInt ≤ ((n : Nat) : Int) from by omega)
        · have f20_k : v17.toInt ≠ (0 : Int) := xne h18_k
          refine And.intro (fun h21_k => ?_) (fun h21_k => ?_)
          · exact absurd (show (1 : Int32) = (0 : Int32) from h21_k) (by decide)
          · have f22_k : (1 : Int) ≠ (0 : Int) := xne h21_k
            refine ms_259 J (show x1.toInt % 41 = 0 from by omega) (show 0 ≤ x1.toInt from by omega) (show x1.toInt < 27306 from by omega) (show x3.toInt % 41 = 0 from by omega) (show 0 ≤ x3.toInt from by omega) (show x3.toInt < 27306 from by omega) (show 0 ≤ (1 : Int) from by omega) (show (1 : Int) ≤ 41 from by omega) (show 0 ≤ (x4 - 1).toInt from by omega) (show (x4 - 1).toInt ≤ 41 from by omega) (show 0 ≤ x6.toInt from by omega) (show x6.toInt ≤ 41 from by omega) (fun v23 p23_0 b23 => ?_)
            have p23_0' : v23.toInt = 0 ∨ x6.toInt + (x4 - 1).toInt ≤ (ps_a s 1134 (Int32.toNatClampNeg x3)).toInt := p23_0
            refine And.intro (fun h24_k => ?_) (fun h24_k => ?_)
            · have f25_k : v23.toInt = (0 : Int) := xeq h24_k
              exact ms_260_111 (x1 := x1) (x2 := x2) (x3 := x3) (σ := σ) k n (fun x4z x5z x6z Jz i0z i1z i2z i3z i4z i5z i6z i7z i8z i9z i10z i11z i12z i13z i14z hm => ih (n - 1) (show n - 1 < n from by omega) x4z x5z x6z Jz i0z i1z i2z i3z i4z i5z i6z i7z i8z i9z i10z i11z i12z i13z i14z (show _ ≤ ((n - 1 : Nat) : Int) from by omega)) x4 x5 x6 (1) J (show x1.toInt % 41 = 0 from by omega) (show 0 ≤ x1.toInt from by omega) (show x1.toInt < 27306 from by omega) (show x2.toInt % 41 = 0 from by omega) (show 0 ≤ x2.toInt from by omega) (show x2.toInt < 27306 from by omega) (show x3.toInt % 41 = 0 from by omega) (show 0 ≤ x3.toInt from by omega) (show x3.toInt < 27306 from by omega) (show 2 ≤ x4.toInt from by omega) (show x4.toInt ≤ (ps_a s 1134 (Int32.toNatClampNeg x1)).toInt from by omega) (show 0 ≤ x5.toInt from by omega) (show x5.toInt ≤ (ps_a s 1134 (Int32.toNatClampNeg x2)).toInt from by omega) (show 0 ≤ x6.toInt from by omega) (show x6.toInt ≤ (ps_a s 1134 (Int32.toNatClampNeg x3)).toInt from by omega) (show x5.toInt < (ps_a s 1134 (Int32.toNatClampNeg x2)).toInt from by omega) (show x6.toInt < (ps_a s 1134 (Int32.toNatClampNeg x3)).toInt from by omega) (show (1 : Int) = 0 ∨ x5.toInt + (x4.toInt - 1) ≤ (ps_a s 1134 (Int32.toNatClampNeg x2)).toInt from by omega) (show 41 - x5.toInt ≤ ((n : Nat) : Int) from by omega)
            · have f26_k : v23.toInt ≠ (0 : Int) := xne h24_k
              have a27_k : (x5 + (x4 - 1)).toInt = x5.toInt + (x4 - 1).toInt := xIa (show -2147483648 ≤ x5.toInt + (x4 - 1).toInt from by omega) (show x5.toInt + (x4 - 1).toInt < 2147483648 from by omega)
              have a28_k : (x6 + (x4 - 1)).toInt = x6.toInt + (x4 - 1).toInt := xIa (show -2147483648 ≤ x6.toInt + (x4 - 1).toInt from by omega) (show x6.toInt + (x4 - 1).toInt < 2147483648 from by omega)
              exact ih (n - 1) (show n - 1 < n from by omega) x4 (x5 + (x4 - 1)) (x6 + (x4 - 1)) J (show x1.toInt % 41 = 0 from by omega) (show 0 ≤ x1.toInt from by omega) (show x1.toInt < 27306 from by omega) (show x2.toInt % 41 = 0 from by omega) (show 0 ≤ x2.toInt from by omega) (show x2.toInt < 27306 from by omega) (show x3.toInt % 41 = 0 from by omega) (show 0 ≤ x3.toInt from by omega) (show x3.toInt < 27306 from by omega) (show 2 ≤ x4.toInt from by omega) (show x4.toInt ≤ (ps_a s 1134 (Int32.toNatClampNeg x1)).toInt from by omega) (show 0 ≤ (x5 + (x4 - 1)).toInt from by omega) (show (x5 + (x4 - 1)).toInt ≤ (ps_a s 1134 (Int32.toNatClampNeg x2)).toInt from by omega) (show 0 ≤ (x6 + (x4 - 1)).toInt from by omega) (show (x6 + (x4 - 1)).toInt ≤ (ps_a s 1134 (Int32.toNatClampNeg x3)).toInt from by omega) (show 41 - (x5 + (x4 - 1)).toInt ≤ ((n - 1 : Nat) : Int) from by omega)

theorem ms_260 {x : Nat → Nat → Nat} {t : Int32} {s : ps_S} {d : Nat} {x1 : Int32} {x2 : Int32} {x3 : Int32} {f : Int32 → ps_S → Prop} (J : mJ x t s) {σ : mSig} (hS : Sg (ps_a s 1135) (ps_a s 1136) (ps_a s 1138) (ps_a s 1139) (ps_i s 1131 21).toInt σ) (hF : Fm σ (ps_a s 1134) x1.toInt) (q2_k : x1.toInt % 41 = 0) (q3_k : 0 ≤ x1.toInt) (q4_k : x1.toInt < 27306) (q5_k : x2.toInt % 41 = 0) (q6_k : 0 ≤ x2.toInt) (q7_k : x2.toInt < 27306) (q8_k : x3.toInt % 41 = 0) (q9_k : 0 ≤ x3.toInt) (q10_k : x3.toInt < 27306) (q11_k : (ps_a s 1134 (Int32.toNatClampNeg ((x1 + 1) + 0))).toInt = 6) (k : ∀ (v : Int32), v &&& 1 = v → f v s) : ps_Cl (d + 2) 260 [.ref 1131, .int x1, .int x2, .int x3] s (ps_rI f) := by
  refine pg_260_0 (d := d + 1) ?_
  obtain ⟨l, hl1, hl2⟩ := id hF
  obtain ⟨c, l3, rfl⟩ := wf_ne hl2
  have hp_k := Rw_p (l1 := []) (i := 0) hl1 rfl rfl
  have hlen := hl1.2.2.2.1
  have hc1 : c = 6 := by omega
  subst hc1
  obtain ⟨ks_k, hk_k, hw2⟩ := ws_hd (show ws σ (6 :: l3) [true] from wf_ws hl2)
  rw [kS_f6] at hk_k
  cases hk_k
  obtain ⟨p, q, hpq_k, hp1, hp2⟩ := ws_split (W1 := [false]) (W2 := [false]) hw2
  subst hpq_k
  have hp3 := ws_le hp1
  have hn_k : (ps_a s 1134 (Int32.toNatClampNeg x1)).toInt = (1 + p.length + q.length : Int) := (Rw_n hl1).trans (by simp only [List.length_cons, List.length_append]; omega)
  have hp4 : 1 ≤ p.length := hp3
  refine ms_221 J hS ((show Rw (ps_a s 1134) (x1).toInt ([6] ++ (p ++ q)) from hl1)) (rfl) (hp1) (fun v1 p1_0 => ?_)
  have hv_k : _ := p1_0
  have hv2 : (v1).toInt = 1 + (p.length : Int) := hv_k
  have r2_k : x1.toInt % 41 = 0 → x1.toInt < 27306 → 0 ≤ (ps_a s 1134 (Int32.toNatClampNeg x1)).toInt ∧ (ps_a s 1134 (Int32.toNatClampNeg x1)).toInt ≤ 40 := fun z1_k z2_k => mp_row (i := x1) J z1_k (show 0 ≤ x1.toInt from by omega) z2_k
  have r3_k : x2.toInt % 41 = 0 → x2.toInt < 27306 → 0 ≤ (ps_a s 1134 (Int32.toNatClampNeg x2)).toInt ∧ (ps_a s 1134 (Int32.toNatClampNeg x2)).toInt ≤ 40 := fun z1_k z2_k => mp_row (i := x2) J z1_k (show 0 ≤ x2.toInt from by omega) z2_k
  have r4_k : x3.toInt % 41 = 0 → x3.toInt < 27306 → 0 ≤ (ps_a s 1134 (Int32.toNatClampNeg x3)).toInt ∧ (ps_a s 1134 (Int32.toNatClampNeg x3)).toInt ≤ 40 := fun z1_k z2_k => mp_row (i := x3) J z1_k (show 0 ≤ x3.toInt from by omega) z2_k
  exact ms_260_14 (x1 := x1) (x2 := x2) (x3 := x3) (σ := σ) k  (41 - (0 : Int)).toNat v1 (0) (0) J (show x1.toInt % 41 = 0 from by omega) (show 0 ≤ x1.toInt from by omega) (show x1.toInt < 27306 from by omega) (show x2.toInt % 41 = 0 from by omega) (show 0 ≤ x2.toInt from by omega) (show x2.toInt < 27306 from by omega) (show x3.toInt % 41 = 0 from by omega) (show 0 ≤ x3.toInt from by omega) (show x3.toInt < 27306 from by omega) (show 2 ≤ v1.toInt from by omega) (show v1.toInt ≤ (ps_a s 1134 (Int32.toNatClampNeg x1)).toInt from by omega) (show 0 ≤ (0 : Int) from by omega) (show (0 : Int) ≤ (ps_a s 1134 (Int32.toNatClampNeg x2)).toInt from by omega) (show 0 ≤ (0 : Int) from by omega) (show (0 : Int) ≤ (ps_a s 1134 (Int32.toNatClampNeg x3)).toInt from by omega) (show 41 - (0 : Int) ≤ (((41 - (0 : Int)).toNat : Nat) : Int) from by omega)
end
section
set_option maxRecDepth 100000
-- ProofBenchModel.takesCase(I)V
theorem pg_256_0 {d : Nat} {x1 : Int32} {s : ps_S} {Q : Option Value → ps_S → Prop} (h :
  ps_Cl d 244 [.ref 1131, .int x1] s (ps_rI (fun v1 s1 =>
    ps_Cl d 247 [.ref 1131, .int v1] s1 (ps_rI (fun v2 s2 =>
      (v2 ≠ 2 →
        ((0 : Int32) = 0 →
          ps_At (d + 1) 256 42 [(0, .ref 1131), (1, .int x1), (2, .int v1), (3, .int 0)] [] s2 Q) ∧
        ((0 : Int32) ≠ 0 →
          ps_Cl d 245 [.ref 1131, .int x1] s2 (ps_rI (fun v3 s3 =>
            ps_Cl d 246 [.ref 1131, .int x1] s3 (ps_rI (fun v4 s4 =>
              ps_Cl d 222 [.ref 1131, .int v3, .int v4] s4 (ps_rI (fun v5 s5 =>
                (v5 ≠ 0 →
                  ps_At (d + 1) 256 47 [(0, .ref 1131), (1, .int x1), (2, .int v1), (3, .int 0)] [] s5 Q) ∧
                (v5 = 0 →
                  ps_At (d + 1) 256 42 [(0, .ref 1131), (1, .int x1), (2, .int v1), (3, .int 0)] [] s5 Q))))))))) ∧
      (v2 = 2 →
        ((1 : Int32) = 0 →
          ps_At (d + 1) 256 42 [(0, .ref 1131), (1, .int x1), (2, .int v1), (3, .int 1)] [] s2 Q) ∧
        ((1 : Int32) ≠ 0 →
          ps_Cl d 245 [.ref 1131, .int x1] s2 (ps_rI (fun v6 s6 =>
            ps_Cl d 246 [.ref 1131, .int x1] s6 (ps_rI (fun v7 s7 =>
              ps_Cl d 222 [.ref 1131, .int v6, .int v7] s7 (ps_rI (fun v8 s8 =>
                (v8 ≠ 0 →
                  ps_At (d + 1) 256 47 [(0, .ref 1131), (1, .int x1), (2, .int v1), (3, .int 1)] [] s8 Q) ∧
                (v8 = 0 →
                  ps_At (d + 1) 256 42 [(0, .ref 1131), (1, .int x1), (2, .int v1), (3, .int 1)] [] s8 Q)))))))))))))) : ps_At (d + 1) 256 0 [(0, .ref 1131), (1, .int x1)] [] s Q :=
  ps_wp_at (stops := [(42, [0, 1, 2, 3]), (47, [0, 1, 2, 3])]) (n := 38) h rfl

theorem pg_256_42 {d : Nat} {x1 : Int32} {x2 : Int32} {x3 : Int32} {s : ps_S} {Q : Option Value → ps_S → Prop} (h :
  ps_Cl d 241 [.ref 1131, .int 2] s (ps_rV (fun s1 =>
    ps_At (d + 1) 256 47 [(0, .ref 1131), (1, .int x1), (2, .int x2), (3, .int x3)] [] s1 Q))) : ps_At (d + 1) 256 42 [(0, .ref 1131), (1, .int x1), (2, .int x2), (3, .int x3)] [] s Q :=
  ps_wp_at (stops := [(42, [0, 1, 2, 3]), (47, [0, 1, 2, 3])]) (n := 5) h rfl

theorem pg_256_47 {d : Nat} {x1 : Int32} {x2 : Int32} {x3 : Int32} {s : ps_S} {Q : Option Value → ps_S → Prop} (h :
  (x3 ≠ 0 →
    ps_Cl d 221 [.ref 1131, .int x2, .int 1] s (ps_rI (fun v1 s1 =>
      ps_nd (pm_in x1 40) (ps_Cl d 249 [.ref 1131, .int x1, .int (ps_a s1 1153 (Int32.toNatClampNeg x1)), .int 0] s1 (ps_rV (fun s2 =>
        ps_Cl d 226 [.ref 1131, .int x2, .int 1, .int v1] s2 (ps_rV (fun s3 =>
          ps_nd (pm_in x1 40) (ps_Cl d 249 [.ref 1131, .int x1, .int (ps_a s3 1154 (Int32.toNatClampNeg x1)), .int 1] s3 (ps_rV (fun s4 =>
            ps_Cl d 219 [.ref 1131, .int x2] (ps_ui s4 1131 34 0) (ps_rI (fun v5 s5 =>
              ps_Cl d 226 [.ref 1131, .int x2, .int v1, .int v5] s5 (ps_rV (fun s6 =>
                ps_nd (pm_in x1 40) (ps_Cl d 249 [.ref 1131, .int x1, .int (ps_a s6 1155 (Int32.toNatClampNeg x1)), .int 1] s6 (ps_rV (fun s7 =>
                  ps_Cl d 245 [.ref 1131, .int x1] (ps_ui s7 1131 34 0) (ps_rI (fun v8 s8 =>
                    ps_Cl d 227 [.ref 1131, .int v8] s8 (ps_rV (fun s9 =>
                      Q none s9)))))))))))))))))))))) ∧
  (x3 = 0 →
    Q none s)) : ps_At (d + 1) 256 47 [(0, .ref 1131), (1, .int x1), (2, .int x2), (3, .int x3)] [] s Q :=
  ps_wp_at (stops := [(42, [0, 1, 2, 3]), (47, [0, 1, 2, 3])]) (n := 58) h rfl

theorem ms_256_47 {x : Nat → Nat → Nat} {t : Int32} {d : Nat} {s0 : ps_S} {σ : mSig} {x1 : Int32} {Q : Option Value → ps_S → Prop} (k : ∀ (s' : ps_S), mJ x t s' → kp [1134, 1149] [34, 50, 51] s0 s' → (As σ (ps_a s' 1134) x1.toInt (ps_i s' 1131 51).toInt) → (OutB (ps_a s0 1134) (ps_a s' 1134) x1.toInt) → ((ps_i s0 1131 51).toInt ≤ (ps_i s' 1131 51).toInt) → ((ps_i s' 1131 51).toInt ≤ (ps_i s0 1131 51).toInt + 36) → (Res σ (ps_a s' 1149) (ps_i s' 1131 34).toInt (ps_i s' 1131 50).toInt) → Q none s') (x2 : Int32) (x3 : Int32) (s : ps_S) (J : mJ x t s) (K : kp [1134, 1149] [34, 50, 51] s0 s) (hS : Sg (ps_a s 1135) (ps_a s 1136) (ps_a s 1138) (ps_a s 1139) (ps_i s 1131 21).toInt σ) (hC : SC σ (ps_a s 1134) (ps_a s 1157) (ps_a s 1152) (ps_a s 1153) (ps_a s 1154) (ps_a s 1155) (ps_i s 1131 21).toInt x1.toInt) (hA : As σ (ps_a s 1134) x1.toInt (ps_i s 1131 51).toInt) (hM : Md (ps_a s 1149) (ps_i s 1131 34).toInt ([] : List Nat)) (hO : OutB (ps_a s0 1134) (ps_a s 1134) x1.toInt) (i5_k : 0 ≤ x1.toInt) (i6_k : x1.toInt < 40) (i7_k : (ps_i s0 1131 51).toInt ≤ 100) (i8_k : (ps_i s 1131 51).toInt = (ps_i s0 1131 51).toInt) (i9_k : (ps_a s 1152 (Int32.toNatClampNeg x1)).toInt = 8) (i10_k : x2.toInt = 41 * (ps_a s 1153 (Int32.toNatClampNeg x1)).toInt) (i11_k : (x3.toInt = 0 ∧ 1 ≤ (ps_i s 1131 50).toInt) ∨ (x3.toInt = 1 ∧ (ps_a s 1134 (Int32.toNatClampNeg ((x2 + 1) + 0))).toInt = 2)) : ps_At (d + 4) 256 47 [(0, .ref 1131), (1, .int x1), (2, .int x2), (3, .int x3)] [] s Q := by
  have r1_k := mf_51 J
  have r2_k : 0 ≤ (ps_a s 1152 (Int32.toNatClampNeg x1)).toInt ∧ (ps_a s 1152 (Int32.toNatClampNeg x1)).toInt ≤ 18 := ma_1152 (i := x1) J (show 0 ≤ x1.toInt from by omega) (show x1.toInt < 40 from by omega)
  have r3_k : -1 ≤ (ps_a s 1153 (Int32.toNatClampNeg x1)).toInt ∧ (ps_a s 1153 (Int32.toNatClampNeg x1)).toInt ≤ 9999 := ma_1153 (i := x1) J (show 0 ≤ x1.toInt from by omega) (show x1.toInt < 40 from by omega)
  refine pg_256_47 (d := d + 3) ?_
  refine And.intro (fun h4_k => ?_) (fun h4_k => ?_)
  · have f5_k : x3.toInt ≠ (0 : Int) := xne h4_k
    have g0 := SC_g0 hC rfl
    have q1_k := SC_l1 hC rfl ⟨by omega, by omega, by omega, by omega⟩
    have q2_k := SC_l2 hC rfl (by omega)
    have q3_k := SC_l3 hC rfl (by omega)
    have hc2 : (ps_a s 1134 (Int32.toNatClampNeg ((x2 + 1) + 0))).toInt = 2 := by rcases i11_k with z_k | z_k; exact absurd z_k.1 (by omega); exact z_k.2
    obtain ⟨l, hl1, hl2⟩ := SC_1i hC rfl ⟨by omega, by omega, by omega, by omega⟩
    obtain ⟨c, l3, rfl⟩ := wf_ne hl2
    have hl1x : Rw (ps_a s 1134) x2.toInt (c :: l3) := by rw [show x2.toInt = (41 * (ps_a s 1153 (Int32.toNatClampNeg x1)).toInt) from by omega]; exact hl1
    have hp_k := Rw_p (l1 := []) (i := 0) hl1x rfl rfl
    have hc1 : c = 2 := by omega
    subst hc1
    obtain ⟨ks_k, hk_k, hw2⟩ := ws_hd (show ws σ (2 :: l3) [true] from wf_ws hl2)
    rw [kS_f2 (by decide) (by decide)] at hk_k
    cases hk_k
    obtain ⟨p, q, hpq_k, hp1, hp2⟩ := ws_split (W1 := [true]) (W2 := [true]) hw2
    subst hpq_k
    have hRa : Rw (ps_a s 1134) (41 * (ps_a s 1153 (Int32.toNatClampNeg x1)).toInt) (2 :: (p ++ q)) := hl1
    have hlen := hl1.2.2.2.1
    rw [List.length_cons, List.length_append] at hlen
    obtain ⟨lb, hb1, hb2⟩ := SC_2i hC rfl (by omega)
    have hRb : Rw (ps_a s 1134) (41 * (ps_a s 1154 (Int32.toNatClampNeg x1)).toInt) lb := hb1
    have hlb := hb1.2.2.2.1
    refine ms_221 J hS ((show Rw (ps_a s 1134) (x2).toInt ([2] ++ (p ++ q)) from by rw [show (x2).toInt = (41 * (ps_a s 1153 (Int32.toNatClampNeg x1)).toInt) from by omega]; exact hRa)) (rfl) (hp1) (fun v6 p6_0 => ?_)
    have hv_k : _ := p6_0
    have hv2 : (v6).toInt = 1 + (p.length : Int) := hv_k
    refine ps_nd_i (show pm_in x1 40 = true from xgi (show 0 ≤ x1.toInt from by omega) (show x1.toInt < 40 from by omega)) ?_
    refine ms_249 J hA ((SC_p hC)) (show 0 ≤ x1.toInt from by omega) (show x1.toInt < 40 from by omega) (show 0 ≤ (ps_a s 1153 (Int32.toNatClampNeg x1)).toInt from by omega) (show (ps_a s 1153 (Int32.toNatClampNeg x1)).toInt < x1.toInt from by omega) (show (ps_i s 1131 51).toInt ≤ 800 from by omega) (fun s7 J7 K7 p7_0 p7_1 p7_2 p7_3 => ?_)
    have K8 := kpt K K7 rfl rfl
    have KC := K7
    have hS : Sg (ps_a s7 1135) (ps_a s7 1136) (ps_a s7 1138) (ps_a s7 1139) (ps_i s7 1131 21).toInt σ := by rw [show ps_a s7 1135 = ps_a s 1135 from (K7.2 1135 rfl).1, show ps_a s7 1136 = ps_a s 1136 from (K7.2 1136 rfl).1, show ps_a s7 1138 = ps_a s 1138 from (K7.2 1138 rfl).1, show ps_a s7 1139 = ps_a s 1139 from (K7.2 1139 rfl).1, show ps_i s7 1131 21 = ps_i s 1131 21 from kp_i K7 21 rfl]; exact hS
    have hM : Md (ps_a s7 1149) (ps_i s7 1131 34).toInt ([] : List Nat) := by rw [show ps_a s7 1149 = ps_a s 1149 from (K7.2 1149 rfl).1, show ps_i s7 1131 34 = ps_i s 1131 34 from kp_i K7 34 rfl]; exact hM
    have p7_2' : (ps_i s 1131 51).toInt ≤ (ps_i s7 1131 51).toInt := p7_2
    have r9_k := mf_51 J7
    have p7_3' : (ps_i s7 1131 51).toInt ≤ (ps_i s 1131 51).toInt + 12 := p7_3
    have hA : As σ (ps_a s7 1134) x1.toInt (ps_i s7 1131 51).toInt := p7_0
    have ho : _ := p7_1
    have hO := OutB_tr hO ho
    have hC : SC σ (ps_a s7 1134) (ps_a s7 1157) (ps_a s7 1152) (ps_a s7 1153) (ps_a s7 1154) (ps_a s7 1155) (ps_i s7 1131 21).toInt x1.toInt := by rw [show ps_a s7 1157 = ps_a s 1157 from (KC.2 1157 rfl).1, show ps_a s7 1152 = ps_a s 1152 from (KC.2 1152 rfl).1, show ps_a s7 1153 = ps_a s 1153 from (KC.2 1153 rfl).1, show ps_a s7 1154 = ps_a s 1154 from (KC.2 1154 rfl).1, show ps_a s7 1155 = ps_a s 1155 from (KC.2 1155 rfl).1, show ps_i s7 1131 21 = ps_i s 1131 21 from kp_i KC 21 rfl]; exact SC_out hC ho
    have hRa : Rw (ps_a s7 1134) (41 * (ps_a s 1153 (Int32.toNatClampNeg x1)).toInt) (2 :: (p ++ q)) := Rw_out hRa ho (by omega)
    have hRb : Rw (ps_a s7 1134) (41 * (ps_a s 1154 (Int32.toNatClampNeg x1)).toInt) lb := Rw_out hRb ho (by omega)
    refine ms_226 J7 ((show Rw (ps_a s7 1134) (x2).toInt ([2] ++ (p ++ q)) from by rw [show (x2).toInt = (41 * (ps_a s 1153 (Int32.toNatClampNeg x1)).toInt) from by omega]; exact hRa)) (hM) (rfl) (Or.inl hv_k) ((by rw [List.length_nil]; omega)) (fun s10 J10 K10 p10_0 => ?_)
    have K11 := kpt K8 K10 rfl rfl
    have KC := K10
    have hS : Sg (ps_a s10 1135) (ps_a s10 1136) (ps_a s10 1138) (ps_a s10 1139) (ps_i s10 1131 21).toInt σ := by rw [show ps_a s10 1135 = ps_a s7 1135 from (K10.2 1135 rfl).1, show ps_a s10 1136 = ps_a s7 1136 from (K10.2 1136 rfl).1, show ps_a s10 1138 = ps_a s7 1138 from (K10.2 1138 rfl).1, show ps_a s10 1139 = ps_a s7 1139 from (K10.2 1139 rfl).1, show ps_i s10 1131 21 = ps_i s7 1131 21 from kp_i K10 21 rfl]; exact hS
    have hA : As σ (ps_a s10 1134) x1.toInt (ps_i s10 1131 51).toInt := by rw [show ps_a s10 1134 = ps_a s7 1134 from (K10.2 1134 rfl).1, show ps_i s10 1131 51 = ps_i s7 1131 51 from kp_i K10 51 rfl]; exact hA
    have hO : OutB (ps_a s0 1134) (ps_a s10 1134) x1.toInt := by rw [show ps_a s10 1134 = ps_a s7 1134 from (K10.2 1134 rfl).1]; exact hO
    have hC : SC σ (ps_a s10 1134) (ps_a s10 1157) (ps_a s10 1152) (ps_a s10 1153) (ps_a s10 1154) (ps_a s10 1155) (ps_i s10 1131 21).toInt x1.toInt := by rw [show ps_a s10 1134 = ps_a s7 1134 from (K10.2 1134 rfl).1, show ps_a s10 1157 = ps_a s7 1157 from (K10.2 1157 rfl).1, show ps_a s10 1152 = ps_a s7 1152 from (K10.2 1152 rfl).1, show ps_a s10 1153 = ps_a s7 1153 from (K10.2 1153 rfl).1, show ps_a s10 1154 = ps_a s7 1154 from (K10.2 1154 rfl).1, show ps_a s10 1155 = ps_a s7 1155 from (K10.2 1155 rfl).1, show ps_i s10 1131 21 = ps_i s7 1131 21 from kp_i K10 21 rfl]; exact hC
    have hRa : Rw (ps_a s10 1134) (41 * (ps_a s 1153 (Int32.toNatClampNeg x1)).toInt) (2 :: (p ++ q)) := by rw [show ps_a s10 1134 = ps_a s7 1134 from (K10.2 1134 rfl).1]; exact hRa
    have hRb : Rw (ps_a s10 1134) (41 * (ps_a s 1154 (Int32.toNatClampNeg x1)).toInt) lb := by rw [show ps_a s10 1134 = ps_a s7 1134 from (K10.2 1134 rfl).1]; exact hRb
    refine ps_nd_i (show pm_in x1 40 = true from xgi (show 0 ≤ x1.toInt from by omega) (show x1.toInt < 40 from by omega)) ?_
    have r12_k : 0 ≤ (ps_a s10 1154 (Int32.toNatClampNeg x1)).toInt ∧ (ps_a s10 1154 (Int32.toNatClampNeg x1)).toInt ≤ 9999 := ma_1154 (i := x1) J10 (show 0 ≤ x1.toInt from by omega) (show x1.toInt < 40 from by omega)
    have u13 : (ps_a s10 1154 (Int32.toNatClampNeg x1)).toInt = (ps_a s7 1154 (Int32.toNatClampNeg x1)).toInt := xeq (kp_a K10 1154 rfl _)
    have r14_k : 0 ≤ (ps_a s7 1154 (Int32.toNatClampNeg x1)).toInt ∧ (ps_a s7 1154 (Int32.toNatClampNeg x1)).toInt ≤ 9999 := ma_1154 (i := x1) J7 (show 0 ≤ x1.toInt from by omega) (show x1.toInt < 40 from by omega)
    have u15 : (ps_a s7 1154 (Int32.toNatClampNeg x1)).toInt = (ps_a s 1154 (Int32.toNatClampNeg x1)).toInt := xeq (kp_a K7 1154 rfl _)
    have r16_k : 0 ≤ (ps_a s 1154 (Int32.toNatClampNeg x1)).toInt ∧ (ps_a s 1154 (Int32.toNatClampNeg x1)).toInt ≤ 9999 := ma_1154 (i := x1) J (show 0 ≤ x1.toInt from by omega) (show x1.toInt < 40 from by omega)
    have r17_k := mf_51 J10
    have u18 : (ps_i s10 1131 51).toInt = (ps_i s7 1131 51).toInt := xeq (kp_i K10 51 rfl)
    refine ms_249 J10 hA ((SC_p hC)) (show 0 ≤ x1.toInt from by omega) (show x1.toInt < 40 from by omega) (show 0 ≤ (ps_a s10 1154 (Int32.toNatClampNeg x1)).toInt from by omega) (show (ps_a s10 1154 (Int32.toNatClampNeg x1)).toInt < x1.toInt from by omega) (show (ps_i s10 1131 51).toInt ≤ 800 from by omega) (fun s19 J19 K19 p19_0 p19_1 p19_2 p19_3 => ?_)
    have K20 := kpt K11 K19 rfl rfl
    have KC := K19
    have hS : Sg (ps_a s19 1135) (ps_a s19 1136) (ps_a s19 1138) (ps_a s19 1139) (ps_i s19 1131 21).toInt σ := by rw [show ps_a s19 1135 = ps_a s10 1135 from (K19.2 1135 rfl).1, show ps_a s19 1136 = ps_a s10 1136 from (K19.2 1136 rfl).1, show ps_a s19 1138 = ps_a s10 1138 from (K19.2 1138 rfl).1, show ps_a s19 1139 = ps_a s10 1139 from (K19.2 1139 rfl).1, show ps_i s19 1131 21 = ps_i s10 1131 21 from kp_i K19 21 rfl]; exact hS
    have p19_2' : (ps_i s10 1131 51).toInt ≤ (ps_i s19 1131 51).toInt := p19_2
    have r21_k := mf_51 J19
    have p19_3' : (ps_i s19 1131 51).toInt ≤ (ps_i s10 1131 51).toInt + 12 := p19_3
    have hA : As σ (ps_a s19 1134) x1.toInt (ps_i s19 1131 51).toInt := p19_0
    have ho : _ := p19_1
    have hO := OutB_tr hO ho
    have hC : SC σ (ps_a s19 1134) (ps_a s19 1157) (ps_a s19 1152) (ps_a s19 1153) (ps_a s19 1154) (ps_a s19 1155) (ps_i s19 1131 21).toInt x1.toInt := by rw [show ps_a s19 1157 = ps_a s10 1157 from (KC.2 1157 rfl).1, show ps_a s19 1152 = ps_a s10 1152 from (KC.2 1152 rfl).1, show ps_a s19 1153 = ps_a s10 1153 from (KC.2 1153 rfl).1, show ps_a s19 1154 = ps_a s10 1154 from (KC.2 1154 rfl).1, show ps_a s19 1155 = ps_a s10 1155 from (KC.2 1155 rfl).1, show ps_i s19 1131 21 = ps_i s10 1131 21 from kp_i KC 21 rfl]; exact SC_out hC ho
    have hRa : Rw (ps_a s19 1134) (41 * (ps_a s 1153 (Int32.toNatClampNeg x1)).toInt) (2 :: (p ++ q)) := Rw_out hRa ho (by omega)
    have hRb : Rw (ps_a s19 1134) (41 * (ps_a s 1154 (Int32.toNatClampNeg x1)).toInt) lb := Rw_out hRb ho (by omega)
    have J22 := mwi_34 (v := (0 : Int32)) J19 (show 0 ≤ (0 : Int) from by omega) (show (0 : Int) ≤ 100000 from by omega)
    have K23 := kpi K20 (q := 34) (v := (0 : Int32)) rfl
    have hM : Md (ps_a (ps_ui s19 1131 34 0) 1149) (ps_i (ps_ui s19 1131 34 0) 1131 34).toInt ([] : List Nat) := Md_nil rfl
    refine pg_219_0 ?_
    refine ps_nd_i (show pm_in x2 27400 = true from xgi (show 0 ≤ x2.toInt from by omega) (show x2.toInt < 27400 from by omega)) ?_
    have r24_k : x2.toInt % 41 = 0 → x2.toInt < 27306 → 0 ≤ (ps_a s19 1134 (Int32.toNatClampNeg x2)).toInt ∧ (ps_a s19 1134 (Int32.toNatClampNeg x2)).toInt ≤ 40 := fun z1_k z2_k => mp_row (i := x2) J19 z1_k (show 0 ≤ x2.toInt from by omega) z2_k
    refine ms_226 J22 ((show Rw (ps_a (ps_ui s19 1131 34 0) 1134) (x2).toInt (([2] ++ p) ++ (q ++ [])) from by rw [List.append_nil, List.append_assoc, show (x2).toInt = (41 * (ps_a s 1153 (Int32.toNatClampNeg x1)).toInt) from by omega]; exact hRa)) (hM) ((by rw [llen]; exact hv_k)) ((Or.inl ((Rw_n (show Rw (ps_a (ps_ui s19 1131 34 0) 1134) (x2).toInt (2 :: (p ++ q)) from by rw [show (x2).toInt = (41 * (ps_a s 1153 (Int32.toNatClampNeg x1)).toInt) from by omega]; exact hRa)).trans (by simp only [List.length_cons, List.length_append, List.length_nil]; omega)))) ((by rw [List.length_nil]; omega)) (fun s25 J25 K25 p25_0 => ?_)
    have K26 := kpt K23 K25 rfl rfl
    have KC := K25
    have hS : Sg (ps_a s25 1135) (ps_a s25 1136) (ps_a s25 1138) (ps_a s25 1139) (ps_i s25 1131 21).toInt σ := by rw [show ps_a s25 1135 = ps_a (ps_ui s19 1131 34 0) 1135 from (K25.2 1135 rfl).1, show ps_a s25 1136 = ps_a (ps_ui s19 1131 34 0) 1136 from (K25.2 1136 rfl).1, show ps_a s25 1138 = ps_a (ps_ui s19 1131 34 0) 1138 from (K25.2 1138 rfl).1, show ps_a s25 1139 = ps_a (ps_ui s19 1131 34 0) 1139 from (K25.2 1139 rfl).1, show ps_i s25 1131 21 = ps_i (ps_ui s19 1131 34 0) 1131 21 from kp_i K25 21 rfl]; exact hS
    have hA : As σ (ps_a s25 1134) x1.toInt (ps_i s25 1131 51).toInt := by rw [show ps_a s25 1134 = ps_a (ps_ui s19 1131 34 0) 1134 from (K25.2 1134 rfl).1, show ps_i s25 1131 51 = ps_i (ps_ui s19 1131 34 0) 1131 51 from kp_i K25 51 rfl]; exact hA
    have hO : OutB (ps_a s0 1134) (ps_a s25 1134) x1.toInt := by rw [show ps_a s25 1134 = ps_a (ps_ui s19 1131 34 0) 1134 from (K25.2 1134 rfl).1]; exact hO
    have hC : SC σ (ps_a s25 1134) (ps_a s25 1157) (ps_a s25 1152) (ps_a s25 1153) (ps_a s25 1154) (ps_a s25 1155) (ps_i s25 1131 21).toInt x1.toInt := by rw [show ps_a s25 1134 = ps_a (ps_ui s19 1131 34 0) 1134 from (K25.2 1134 rfl).1, show ps_a s25 1157 = ps_a (ps_ui s19 1131 34 0) 1157 from (K25.2 1157 rfl).1, show ps_a s25 1152 = ps_a (ps_ui s19 1131 34 0) 1152 from (K25.2 1152 rfl).1, show ps_a s25 1153 = ps_a (ps_ui s19 1131 34 0) 1153 from (K25.2 1153 rfl).1, show ps_a s25 1154 = ps_a (ps_ui s19 1131 34 0) 1154 from (K25.2 1154 rfl).1, show ps_a s25 1155 = ps_a (ps_ui s19 1131 34 0) 1155 from (K25.2 1155 rfl).1, show ps_i s25 1131 21 = ps_i (ps_ui s19 1131 34 0) 1131 21 from kp_i K25 21 rfl]; exact hC
    have hRa : Rw (ps_a s25 1134) (41 * (ps_a s 1153 (Int32.toNatClampNeg x1)).toInt) (2 :: (p ++ q)) := by rw [show ps_a s25 1134 = ps_a (ps_ui s19 1131 34 0) 1134 from (K25.2 1134 rfl).1]; exact hRa
    have hRb : Rw (ps_a s25 1134) (41 * (ps_a s 1154 (Int32.toNatClampNeg x1)).toInt) lb := by rw [show ps_a s25 1134 = ps_a (ps_ui s19 1131 34 0) 1134 from (K25.2 1134 rfl).1]; exact hRb
    refine ps_nd_i (show pm_in x1 40 = true from xgi (show 0 ≤ x1.toInt from by omega) (show x1.toInt < 40 from by omega)) ?_
    have r27_k : 0 ≤ (ps_a s25 1155 (Int32.toNatClampNeg x1)).toInt ∧ (ps_a s25 1155 (Int32.toNatClampNeg x1)).toInt ≤ 9999 := ma_1155 (i := x1) J25 (show 0 ≤ x1.toInt from by omega) (show x1.toInt < 40 from by omega)
    have u28 : (ps_a s25 1155 (Int32.toNatClampNeg x1)).toInt = (ps_a s19 1155 (Int32.toNatClampNeg x1)).toInt := xeq (kp_a K25 1155 rfl _)
    have r29_k : 0 ≤ (ps_a s19 1155 (Int32.toNatClampNeg x1)).toInt ∧ (ps_a s19 1155 (Int32.toNatClampNeg x1)).toInt ≤ 9999 := ma_1155 (i := x1) J19 (show 0 ≤ x1.toInt from by omega) (show x1.toInt < 40 from by omega)
    have u30 : (ps_a s19 1155 (Int32.toNatClampNeg x1)).toInt = (ps_a s10 1155 (Int32.toNatClampNeg x1)).toInt := xeq (kp_a K19 1155 rfl _)
    have r31_k : 0 ≤ (ps_a s10 1155 (Int32.toNatClampNeg x1)).toInt ∧ (ps_a s10 1155 (Int32.toNatClampNeg x1)).toInt ≤ 9999 := ma_1155 (i := x1) J10 (show 0 ≤ x1.toInt from by omega) (show x1.toInt < 40 from by omega)
    have u32 : (ps_a s10 1155 (Int32.toNatClampNeg x1)).toInt = (ps_a s7 1155 (Int32.toNatClampNeg x1)).toInt := xeq (kp_a K10 1155 rfl _)
    have r33_k : 0 ≤ (ps_a s7 1155 (Int32.toNatClampNeg x1)).toInt ∧ (ps_a s7 1155 (Int32.toNatClampNeg x1)).toInt ≤ 9999 := ma_1155 (i := x1) J7 (show 0 ≤ x1.toInt from by omega) (show x1.toInt < 40 from by omega)
    have u34 : (ps_a s7 1155 (Int32.toNatClampNeg x1)).toInt = (ps_a s 1155 (Int32.toNatClampNeg x1)).toInt := xeq (kp_a K7 1155 rfl _)
    have r35_k : 0 ≤ (ps_a s 1155 (Int32.toNatClampNeg x1)).toInt ∧ (ps_a s 1155 (Int32.toNatClampNeg x1)).toInt ≤ 9999 := ma_1155 (i := x1) J (show 0 ≤ x1.toInt from by omega) (show x1.toInt < 40 from by omega)
    have r36_k := mf_51 J25
    have u37 : (ps_i s25 1131 51).toInt = (ps_i s19 1131 51).toInt := xeq (kp_i K25 51 rfl)
    refine ms_249 J25 hA ((SC_p hC)) (show 0 ≤ x1.toInt from by omega) (show x1.toInt < 40 from by omega) (show 0 ≤ (ps_a s25 1155 (Int32.toNatClampNeg x1)).toInt from by omega) (show (ps_a s25 1155 (Int32.toNatClampNeg x1)).toInt < x1.toInt from by omega) (show (ps_i s25 1131 51).toInt ≤ 800 from by omega) (fun s38 J38 K38 p38_0 p38_1 p38_2 p38_3 => ?_)
    have K39 := kpt K26 K38 rfl rfl
    have KC := K38
    have hS : Sg (ps_a s38 1135) (ps_a s38 1136) (ps_a s38 1138) (ps_a s38 1139) (ps_i s38 1131 21).toInt σ := by rw [show ps_a s38 1135 = ps_a s25 1135 from (K38.2 1135 rfl).1, show ps_a s38 1136 = ps_a s25 1136 from (K38.2 1136 rfl).1, show ps_a s38 1138 = ps_a s25 1138 from (K38.2 1138 rfl).1, show ps_a s38 1139 = ps_a s25 1139 from (K38.2 1139 rfl).1, show ps_i s38 1131 21 = ps_i s25 1131 21 from kp_i K38 21 rfl]; exact hS
    have p38_2' : (ps_i s25 1131 51).toInt ≤ (ps_i s38 1131 51).toInt := p38_2
    have r40_k := mf_51 J38
    have p38_3' : (ps_i s38 1131 51).toInt ≤ (ps_i s25 1131 51).toInt + 12 := p38_3
    have hA : As σ (ps_a s38 1134) x1.toInt (ps_i s38 1131 51).toInt := p38_0
    have ho : _ := p38_1
    have hO := OutB_tr hO ho
    have hC : SC σ (ps_a s38 1134) (ps_a s38 1157) (ps_a s38 1152) (ps_a s38 1153) (ps_a s38 1154) (ps_a s38 1155) (ps_i s38 1131 21).toInt x1.toInt := by rw [show ps_a s38 1157 = ps_a s25 1157 from (KC.2 1157 rfl).1, show ps_a s38 1152 = ps_a s25 1152 from (KC.2 1152 rfl).1, show ps_a s38 1153 = ps_a s25 1153 from (KC.2 1153 rfl).1, show ps_a s38 1154 = ps_a s25 1154 from (KC.2 1154 rfl).1, show ps_a s38 1155 = ps_a s25 1155 from (KC.2 1155 rfl).1, show ps_i s38 1131 21 = ps_i s25 1131 21 from kp_i KC 21 rfl]; exact SC_out hC ho
    have hRa : Rw (ps_a s38 1134) (41 * (ps_a s 1153 (Int32.toNatClampNeg x1)).toInt) (2 :: (p ++ q)) := Rw_out hRa ho (by omega)
    have hRb : Rw (ps_a s38 1134) (41 * (ps_a s 1154 (Int32.toNatClampNeg x1)).toInt) lb := Rw_out hRb ho (by omega)
    have J41 := mwi_34 (v := (0 : Int32)) J38 (show 0 ≤ (0 : Int) from by omega) (show (0 : Int) ≤ 100000 from by omega)
    have K42 := kpi K39 (q := 34) (v := (0 : Int32)) rfl
    have hM : Md (ps_a (ps_ui s38 1131 34 0) 1149) (ps_i (ps_ui s38 1131 34 0) 1131 34).toInt ([] : List Nat) := Md_nil rfl
    refine pg_245_0 ?_
    refine ps_nd_i (show pm_in x1 40 = true from xgi (show 0 ≤ x1.toInt from by omega) (show x1.toInt < 40 from by omega)) ?_
    have r43_k : 0 ≤ (ps_a s38 1154 (Int32.toNatClampNeg x1)).toInt ∧ (ps_a s38 1154 (Int32.toNatClampNeg x1)).toInt ≤ 9999 := ma_1154 (i := x1) J38 (show 0 ≤ x1.toInt from by omega) (show x1.toInt < 40 from by omega)
    have u44 : (ps_a s38 1154 (Int32.toNatClampNeg x1)).toInt = (ps_a s25 1154 (Int32.toNatClampNeg x1)).toInt := xeq (kp_a K38 1154 rfl _)
    have r45_k : 0 ≤ (ps_a s25 1154 (Int32.toNatClampNeg x1)).toInt ∧ (ps_a s25 1154 (Int32.toNatClampNeg x1)).toInt ≤ 9999 := ma_1154 (i := x1) J25 (show 0 ≤ x1.toInt from by omega) (show x1.toInt < 40 from by omega)
    have u46 : (ps_a s25 1154 (Int32.toNatClampNeg x1)).toInt = (ps_a s19 1154 (Int32.toNatClampNeg x1)).toInt := xeq (kp_a K25 1154 rfl _)
    have r47_k : 0 ≤ (ps_a s19 1154 (Int32.toNatClampNeg x1)).toInt ∧ (ps_a s19 1154 (Int32.toNatClampNeg x1)).toInt ≤ 9999 := ma_1154 (i := x1) J19 (show 0 ≤ x1.toInt from by omega) (show x1.toInt < 40 from by omega)
    have u48 : (ps_a s19 1154 (Int32.toNatClampNeg x1)).toInt = (ps_a s10 1154 (Int32.toNatClampNeg x1)).toInt := xeq (kp_a K19 1154 rfl _)
    refine pg_242_0 ?_
    have a49_k : ((41 : Int32) * (ps_a s38 1154 (Int32.toNatClampNeg x1))).toInt = (41 : Int) * (ps_a s38 1154 (Int32.toNatClampNeg x1)).toInt := xIm (show -2147483648 ≤ (41 : Int) * (ps_a s38 1154 (Int32.toNatClampNeg x1)).toInt from by omega) (show (41 : Int) * (ps_a s38 1154 (Int32.toNatClampNeg x1)).toInt < 2147483648 from by omega)
    have a50_k : ((0 : Int32) + ((41 : Int32) * (ps_a s38 1154 (Int32.toNatClampNeg x1)))).toInt = (0 : Int) + ((41 : Int32) * (ps_a s38 1154 (Int32.toNatClampNeg x1))).toInt := xIa (show -2147483648 ≤ (0 : Int) + ((41 : Int32) * (ps_a s38 1154 (Int32.toNatClampNeg x1))).toInt from by omega) (show (0 : Int) + ((41 : Int32) * (ps_a s38 1154 (Int32.toNatClampNeg x1))).toInt < 2147483648 from by omega)
    refine ms_227 J41 ((show Rw (ps_a (ps_ui s38 1131 34 0) 1134) (((0 : Int32) + ((41 : Int32) * (ps_a s38 1154 (Int32.toNatClampNeg x1))))).toInt lb from by rw [show (((0 : Int32) + ((41 : Int32) * (ps_a s38 1154 (Int32.toNatClampNeg x1))))).toInt = (41 * (ps_a s 1154 (Int32.toNatClampNeg x1)).toInt) from by omega]; exact hRb)) (hM) ((by rw [List.length_nil]; omega)) (fun s51 J51 K51 p51_0 => ?_)
    have K52 := kpt K42 K51 rfl rfl
    have KC := K51
    have hS : Sg (ps_a s51 1135) (ps_a s51 1136) (ps_a s51 1138) (ps_a s51 1139) (ps_i s51 1131 21).toInt σ := by rw [show ps_a s51 1135 = ps_a (ps_ui s38 1131 34 0) 1135 from (K51.2 1135 rfl).1, show ps_a s51 1136 = ps_a (ps_ui s38 1131 34 0) 1136 from (K51.2 1136 rfl).1, show ps_a s51 1138 = ps_a (ps_ui s38 1131 34 0) 1138 from (K51.2 1138 rfl).1, show ps_a s51 1139 = ps_a (ps_ui s38 1131 34 0) 1139 from (K51.2 1139 rfl).1, show ps_i s51 1131 21 = ps_i (ps_ui s38 1131 34 0) 1131 21 from kp_i K51 21 rfl]; exact hS
    have hA : As σ (ps_a s51 1134) x1.toInt (ps_i s51 1131 51).toInt := by rw [show ps_a s51 1134 = ps_a (ps_ui s38 1131 34 0) 1134 from (K51.2 1134 rfl).1, show ps_i s51 1131 51 = ps_i (ps_ui s38 1131 34 0) 1131 51 from kp_i K51 51 rfl]; exact hA
    have hO : OutB (ps_a s0 1134) (ps_a s51 1134) x1.toInt := by rw [show ps_a s51 1134 = ps_a (ps_ui s38 1131 34 0) 1134 from (K51.2 1134 rfl).1]; exact hO
    have hC : SC σ (ps_a s51 1134) (ps_a s51 1157) (ps_a s51 1152) (ps_a s51 1153) (ps_a s51 1154) (ps_a s51 1155) (ps_i s51 1131 21).toInt x1.toInt := by rw [show ps_a s51 1134 = ps_a (ps_ui s38 1131 34 0) 1134 from (K51.2 1134 rfl).1, show ps_a s51 1157 = ps_a (ps_ui s38 1131 34 0) 1157 from (K51.2 1157 rfl).1, show ps_a s51 1152 = ps_a (ps_ui s38 1131 34 0) 1152 from (K51.2 1152 rfl).1, show ps_a s51 1153 = ps_a (ps_ui s38 1131 34 0) 1153 from (K51.2 1153 rfl).1, show ps_a s51 1154 = ps_a (ps_ui s38 1131 34 0) 1154 from (K51.2 1154 rfl).1, show ps_a s51 1155 = ps_a (ps_ui s38 1131 34 0) 1155 from (K51.2 1155 rfl).1, show ps_i s51 1131 21 = ps_i (ps_ui s38 1131 34 0) 1131 21 from kp_i K51 21 rfl]; exact hC
    have hRa : Rw (ps_a s51 1134) (41 * (ps_a s 1153 (Int32.toNatClampNeg x1)).toInt) (2 :: (p ++ q)) := by rw [show ps_a s51 1134 = ps_a (ps_ui s38 1131 34 0) 1134 from (K51.2 1134 rfl).1]; exact hRa
    have hRb : Rw (ps_a s51 1134) (41 * (ps_a s 1154 (Int32.toNatClampNeg x1)).toInt) lb := by rw [show ps_a s51 1134 = ps_a (ps_ui s38 1131 34 0) 1134 from (K51.2 1134 rfl).1]; exact hRb
    have hM1 : Md (ps_a s51 1149) (ps_i s51 1131 34).toInt ([] ++ lb) := p51_0
    have r53_k := mf_51 J51
    have u54 : (ps_i s51 1131 51).toInt = (ps_i s38 1131 51).toInt := xeq (kp_i K51 51 rfl)
    exact k _ J51 K52 hA hO (show (ps_i s0 1131 51).toInt ≤ (ps_i s51 1131 51).toInt from by omega) (show (ps_i s51 1131 51).toInt ≤ (ps_i s0 1131 51).toInt + 36 from by omega) (⟨_, hM1, by simp only [List.length_append, List.length_cons, List.length_nil]; omega, Or.inl (wf_ws hb2)⟩)
  · have f55_k : x3.toInt = (0 : Int) := xeq h4_k
    exact k _ J K hA hO (show (ps_i s0 1131 51).toInt ≤ (ps_i s 1131 51).toInt from by omega) (show (ps_i s 1131 51).toInt ≤ (ps_i s0 1131 51).toInt + 36 from by omega) (⟨[], hM, by decide, Or.inr ⟨rfl, (by rcases i11_k with z_k | z_k; exact z_k.2; exact absurd z_k.1 (by omega))⟩⟩)

theorem ms_256_42 {x : Nat → Nat → Nat} {t : Int32} {d : Nat} {s0 : ps_S} {σ : mSig} {x1 : Int32} {Q : Option Value → ps_S → Prop} (k : ∀ (s' : ps_S), mJ x t s' → kp [1134, 1149] [34, 50, 51] s0 s' → (As σ (ps_a s' 1134) x1.toInt (ps_i s' 1131 51).toInt) → (OutB (ps_a s0 1134) (ps_a s' 1134) x1.toInt) → ((ps_i s0 1131 51).toInt ≤ (ps_i s' 1131 51).toInt) → ((ps_i s' 1131 51).toInt ≤ (ps_i s0 1131 51).toInt + 36) → (Res σ (ps_a s' 1149) (ps_i s' 1131 34).toInt (ps_i s' 1131 50).toInt) → Q none s') (x2 : Int32) (x3 : Int32) (s : ps_S) (J : mJ x t s) (K : kp [1134, 1149] [34, 50, 51] s0 s) (hS : Sg (ps_a s 1135) (ps_a s 1136) (ps_a s 1138) (ps_a s 1139) (ps_i s 1131 21).toInt σ) (hC : SC σ (ps_a s 1134) (ps_a s 1157) (ps_a s 1152) (ps_a s 1153) (ps_a s 1154) (ps_a s 1155) (ps_i s 1131 21).toInt x1.toInt) (hA : As σ (ps_a s 1134) x1.toInt (ps_i s 1131 51).toInt) (hM : Md (ps_a s 1149) (ps_i s 1131 34).toInt ([] : List Nat)) (hO : OutB (ps_a s0 1134) (ps_a s 1134) x1.toInt) (i5_k : 0 ≤ x1.toInt) (i6_k : x1.toInt < 40) (i7_k : (ps_i s0 1131 51).toInt ≤ 100) (i8_k : (ps_i s 1131 51).toInt = (ps_i s0 1131 51).toInt) (i9_k : (ps_a s 1152 (Int32.toNatClampNeg x1)).toInt = 8) (i10_k : x2.toInt = 41 * (ps_a s 1153 (Int32.toNatClampNeg x1)).toInt) (i11_k : (x3.toInt = 0) ∨ (x3.toInt = 1 ∧ (ps_a s 1134 (Int32.toNatClampNeg ((x2 + 1) + 0))).toInt = 2)) : ps_At (d + 4) 256 42 [(0, .ref 1131), (1, .int x1), (2, .int x2), (3, .int x3)] [] s Q := by
  have r1_k := mf_51 J
  have r2_k : 0 ≤ (ps_a s 1152 (Int32.toNatClampNeg x1)).toInt ∧ (ps_a s 1152 (Int32.toNatClampNeg x1)).toInt ≤ 18 := ma_1152 (i := x1) J (show 0 ≤ x1.toInt from by omega) (show x1.toInt < 40 from by omega)
  have r3_k : -1 ≤ (ps_a s 1153 (Int32.toNatClampNeg x1)).toInt ∧ (ps_a s 1153 (Int32.toNatClampNeg x1)).toInt ≤ 9999 := ma_1153 (i := x1) J (show 0 ≤ x1.toInt from by omega) (show x1.toInt < 40 from by omega)
  refine pg_256_42 (d := d + 3) ?_
  refine ms_241 J (show 1 ≤ (2 : Int) from by omega) (show (2 : Int) ≤ 5 from by omega) (fun s4 J4 K4 p4_0 => ?_)
  have K5 := kpt K K4 rfl rfl
  have KC := K4
  have hS : Sg (ps_a s4 1135) (ps_a s4 1136) (ps_a s4 1138) (ps_a s4 1139) (ps_i s4 1131 21).toInt σ := by rw [show ps_a s4 1135 = ps_a s 1135 from (K4.2 1135 rfl).1, show ps_a s4 1136 = ps_a s 1136 from (K4.2 1136 rfl).1, show ps_a s4 1138 = ps_a s 1138 from (K4.2 1138 rfl).1, show ps_a s4 1139 = ps_a s 1139 from (K4.2 1139 rfl).1, show ps_i s4 1131 21 = ps_i s 1131 21 from kp_i K4 21 rfl]; exact hS
  have hC : SC σ (ps_a s4 1134) (ps_a s4 1157) (ps_a s4 1152) (ps_a s4 1153) (ps_a s4 1154) (ps_a s4 1155) (ps_i s4 1131 21).toInt x1.toInt := by rw [show ps_a s4 1134 = ps_a s 1134 from (K4.2 1134 rfl).1, show ps_a s4 1157 = ps_a s 1157 from (K4.2 1157 rfl).1, show ps_a s4 1152 = ps_a s 1152 from (K4.2 1152 rfl).1, show ps_a s4 1153 = ps_a s 1153 from (K4.2 1153 rfl).1, show ps_a s4 1154 = ps_a s 1154 from (K4.2 1154 rfl).1, show ps_a s4 1155 = ps_a s 1155 from (K4.2 1155 rfl).1, show ps_i s4 1131 21 = ps_i s 1131 21 from kp_i K4 21 rfl]; exact hC
  have hA : As σ (ps_a s4 1134) x1.toInt (ps_i s4 1131 51).toInt := by rw [show ps_a s4 1134 = ps_a s 1134 from (K4.2 1134 rfl).1, show ps_i s4 1131 51 = ps_i s 1131 51 from kp_i K4 51 rfl]; exact hA
  have hM : Md (ps_a s4 1149) (ps_i s4 1131 34).toInt ([] : List Nat) := by rw [show ps_a s4 1149 = ps_a s 1149 from (K4.2 1149 rfl).1, show ps_i s4 1131 34 = ps_i s 1131 34 from kp_i K4 34 rfl]; exact hM
  have hO : OutB (ps_a s0 1134) (ps_a s4 1134) x1.toInt := by rw [show ps_a s4 1134 = ps_a s 1134 from (K4.2 1134 rfl).1]; exact hO
  have p4_0' : 1 ≤ (ps_i s4 1131 50).toInt := p4_0
  have r6_k := mf_50 J4
  have r7_k := mf_51 J4
  have u8 : (ps_i s4 1131 51).toInt = (ps_i s 1131 51).toInt := xeq (kp_i K4 51 rfl)
  have r9_k : 0 ≤ (ps_a s4 1152 (Int32.toNatClampNeg x1)).toInt ∧ (ps_a s4 1152 (Int32.toNatClampNeg x1)).toInt ≤ 18 := ma_1152 (i := x1) J4 (show 0 ≤ x1.toInt from by omega) (show x1.toInt < 40 from by omega)
  have u10 : (ps_a s4 1152 (Int32.toNatClampNeg x1)).toInt = (ps_a s 1152 (Int32.toNatClampNeg x1)).toInt := xeq (kp_a K4 1152 rfl _)
  have r11_k : -1 ≤ (ps_a s4 1153 (Int32.toNatClampNeg x1)).toInt ∧ (ps_a s4 1153 (Int32.toNatClampNeg x1)).toInt ≤ 9999 := ma_1153 (i := x1) J4 (show 0 ≤ x1.toInt from by omega) (show x1.toInt < 40 from by omega)
  have u12 : (ps_a s4 1153 (Int32.toNatClampNeg x1)).toInt = (ps_a s 1153 (Int32.toNatClampNeg x1)).toInt := xeq (kp_a K4 1153 rfl _)
  exact ms_256_47 (x1 := x1) (σ := σ) k  x2 x3 _ J4 K5 hS hC hA hM hO (show 0 ≤ x1.toInt from by omega) (show x1.toInt < 40 from by omega) (show (ps_i s0 1131 51).toInt ≤ 100 from by omega) (show (ps_i s4 1131 51).toInt = (ps_i s0 1131 51).toInt from by omega) (show (ps_a s4 1152 (Int32.toNatClampNeg x1)).toInt = 8 from by omega) (show x2.toInt = 41 * (ps_a s4 1153 (Int32.toNatClampNeg x1)).toInt from by omega) ((by rcases i11_k with z_k | z_k; exact Or.inl ⟨z_k, show 1 ≤ (ps_i s4 1131 50).toInt from by omega⟩; exact Or.inr ⟨z_k.1, (by rw [show ps_a s4 1134 = ps_a s 1134 from (KC.2 1134 rfl).1]; exact z_k.2)⟩))

theorem ms_256 {x : Nat → Nat → Nat} {t : Int32} {s : ps_S} {d : Nat} {x1 : Int32} {f : ps_S → Prop} (J : mJ x t s) {σ : mSig} (hS : Sg (ps_a s 1135) (ps_a s 1136) (ps_a s 1138) (ps_a s 1139) (ps_i s 1131 21).toInt σ) (hC : SC σ (ps_a s 1134) (ps_a s 1157) (ps_a s 1152) (ps_a s 1153) (ps_a s 1154) (ps_a s 1155) (ps_i s 1131 21).toInt x1.toInt) (hA : As σ (ps_a s 1134) x1.toInt (ps_i s 1131 51).toInt) (hM : Md (ps_a s 1149) (ps_i s 1131 34).toInt ([] : List Nat)) (q4_k : 0 ≤ x1.toInt) (q5_k : x1.toInt < 40) (q6_k : (ps_i s 1131 51).toInt ≤ 100) (q7_k : (ps_a s 1152 (Int32.toNatClampNeg x1)).toInt = 8) (k : ∀ (s' : ps_S), mJ x t s' → kp [1134, 1149] [34, 50, 51] s s' → (As σ (ps_a s' 1134) x1.toInt (ps_i s' 1131 51).toInt) → (OutB (ps_a s 1134) (ps_a s' 1134) x1.toInt) → ((ps_i s 1131 51).toInt ≤ (ps_i s' 1131 51).toInt) → ((ps_i s' 1131 51).toInt ≤ (ps_i s 1131 51).toInt + 36) → (Res σ (ps_a s' 1149) (ps_i s' 1131 34).toInt (ps_i s' 1131 50).toInt) → f s') : ps_Cl (d + 4) 256 [.ref 1131, .int x1] s (ps_rV f) := by
  have r1_k := mf_51 J
  have r2_k : 0 ≤ (ps_a s 1152 (Int32.toNatClampNeg x1)).toInt ∧ (ps_a s 1152 (Int32.toNatClampNeg x1)).toInt ≤ 18 := ma_1152 (i := x1) J (show 0 ≤ x1.toInt from by omega) (show x1.toInt < 40 from by omega)
  have K : kp [1134, 1149] [34, 50, 51] s s := kp_refl
  refine pg_256_0 (d := d + 3) ?_
  have hO : OutB (ps_a s 1134) (ps_a s 1134) x1.toInt := OutB_refl
  have q1_k := SC_l1 hC rfl ⟨by omega, by omega, by omega, by omega⟩
  have q2_k := SC_l2 hC rfl (by omega)
  have q3_k := SC_l3 hC rfl (by omega)
  refine pg_244_0 ?_
  refine ps_nd_i (show pm_in x1 40 = true from xgi (show 0 ≤ x1.toInt from by omega) (show x1.toInt < 40 from by omega)) ?_
  have r3_k : -1 ≤ (ps_a s 1153 (Int32.toNatClampNeg x1)).toInt ∧ (ps_a s 1153 (Int32.toNatClampNeg x1)).toInt ≤ 9999 := ma_1153 (i := x1) J (show 0 ≤ x1.toInt from by omega) (show x1.toInt < 40 from by omega)
  refine pg_242_0 ?_
  have a4_k : ((41 : Int32) * (ps_a s 1153 (Int32.toNatClampNeg x1))).toInt = (41 : Int) * (ps_a s 1153 (Int32.toNatClampNeg x1)).toInt := xIm (show -2147483648 ≤ (41 : Int) * (ps_a s 1153 (Int32.toNatClampNeg x1)).toInt from by omega) (show (41 : Int) * (ps_a s 1153 (Int32.toNatClampNeg x1)).toInt < 2147483648 from by omega)
  have a5_k : ((0 : Int32) + ((41 : Int32) * (ps_a s 1153 (Int32.toNatClampNeg x1)))).toInt = (0 : Int) + ((41 : Int32) * (ps_a s 1153 (Int32.toNatClampNeg x1))).toInt := xIa (show -2147483648 ≤ (0 : Int) + ((41 : Int32) * (ps_a s 1153 (Int32.toNatClampNeg x1))).toInt from by omega) (show (0 : Int) + ((41 : Int32) * (ps_a s 1153 (Int32.toNatClampNeg x1))).toInt < 2147483648 from by omega)
  obtain ⟨l, hl1, hl2⟩ := SC_1i hC rfl ⟨by omega, by omega, by omega, by omega⟩
  have hl1 : Rw (ps_a s 1134) (((0 : Int32) + ((41 : Int32) * (ps_a s 1153 (Int32.toNatClampNeg x1))))).toInt l := by rw [show (((0 : Int32) + ((41 : Int32) * (ps_a s 1153 (Int32.toNatClampNeg x1))))).toInt = 41 * (ps_a s 1153 (Int32.toNatClampNeg x1)).toInt from by omega]; exact hl1
  obtain ⟨c, l3, rfl⟩ := wf_ne hl2
  have hp_k := Rw_p (l1 := []) (i := 0) hl1 rfl rfl
  have w1 := hl1.1
  have w2 := hl1.2.1
  have w3 := hl1.2.2.1
  refine pg_247_0 ?_
  refine pg_220_0 ?_
  have a6_k : (((0 : Int32) + ((41 : Int32) * (ps_a s 1153 (Int32.toNatClampNeg x1)))) + 1).toInt = ((0 : Int32) + ((41 : Int32) * (ps_a s 1153 (Int32.toNatClampNeg x1)))).toInt + (1 : Int) := xIa (show -2147483648 ≤ ((0 : Int32) + ((41 : Int32) * (ps_a s 1153 (Int32.toNatClampNeg x1)))).toInt + (1 : Int) from by omega) (show ((0 : Int32) + ((41 : Int32) * (ps_a s 1153 (Int32.toNatClampNeg x1)))).toInt + (1 : Int) < 2147483648 from by omega)
  have a7_k : ((((0 : Int32) + ((41 : Int32) * (ps_a s 1153 (Int32.toNatClampNeg x1)))) + 1) + 0).toInt = (((0 : Int32) + ((41 : Int32) * (ps_a s 1153 (Int32.toNatClampNeg x1)))) + 1).toInt + (0 : Int) := xIa (show -2147483648 ≤ (((0 : Int32) + ((41 : Int32) * (ps_a s 1153 (Int32.toNatClampNeg x1)))) + 1).toInt + (0 : Int) from by omega) (show (((0 : Int32) + ((41 : Int32) * (ps_a s 1153 (Int32.toNatClampNeg x1)))) + 1).toInt + (0 : Int) < 2147483648 from by omega)
  refine ps_nd_i (show pm_in ((((0 : Int32) + ((41 : Int32) * (ps_a s 1153 (Int32.toNatClampNeg x1)))) + 1) + 0) 27400 = true from xgi (show 0 ≤ ((((0 : Int32) + ((41 : Int32) * (ps_a s 1153 (Int32.toNatClampNeg x1)))) + 1) + 0).toInt from by omega) (show ((((0 : Int32) + ((41 : Int32) * (ps_a s 1153 (Int32.toNatClampNeg x1)))) + 1) + 0).toInt < 27400 from by omega)) ?_
  have r8_k : ((((0 : Int32) + ((41 : Int32) * (ps_a s 1153 (Int32.toNatClampNeg x1)))) + 1) + 0).toInt % 41 = 0 → ((((0 : Int32) + ((41 : Int32) * (ps_a s 1153 (Int32.toNatClampNeg x1)))) + 1) + 0).toInt < 27306 → 0 ≤ (ps_a s 1134 (Int32.toNatClampNeg ((((0 : Int32) + ((41 : Int32) * (ps_a s 1153 (Int32.toNatClampNeg x1)))) + 1) + 0))).toInt ∧ (ps_a s 1134 (Int32.toNatClampNeg ((((0 : Int32) + ((41 : Int32) * (ps_a s 1153 (Int32.toNatClampNeg x1)))) + 1) + 0))).toInt ≤ 40 := fun z1_k z2_k => mp_row (i := ((((0 : Int32) + ((41 : Int32) * (ps_a s 1153 (Int32.toNatClampNeg x1)))) + 1) + 0)) J z1_k (show 0 ≤ ((((0 : Int32) + ((41 : Int32) * (ps_a s 1153 (Int32.toNatClampNeg x1)))) + 1) + 0).toInt from by omega) z2_k
  refine And.intro (fun h9_k => ?_) (fun h9_k => ?_)
  · have f10_k : (ps_a s 1134 (Int32.toNatClampNeg ((((0 : Int32) + ((41 : Int32) * (ps_a s 1153 (Int32.toNatClampNeg x1)))) + 1) + 0))).toInt ≠ (2 : Int) := xne h9_k
    refine And.intro (fun h11_k => ?_) (fun h11_k => ?_)
    · exact ms_256_42 (x1 := x1) (σ := σ) k  ((0 : Int32) + ((41 : Int32) * (ps_a s 1153 (Int32.toNatClampNeg x1)))) (0) _ J K hS hC hA hM hO (show 0 ≤ x1.toInt from by omega) (show x1.toInt < 40 from by omega) (show (ps_i s 1131 51).toInt ≤ 100 from by omega) (show (ps_i s 1131 51).toInt = (ps_i s 1131 51).toInt from by omega) (show (ps_a s 1152 (Int32.toNatClampNeg x1)).toInt = 8 from by omega) (show ((0 : Int32) + ((41 : Int32) * (ps_a s 1153 (Int32.toNatClampNeg x1)))).toInt = 41 * (ps_a s 1153 (Int32.toNatClampNeg x1)).toInt from by omega) ((by first | exact Or.inl rfl | exact Or.inr ⟨rfl, (show (ps_a s 1134 (Int32.toNatClampNeg (((0 : Int32) + ((41 : Int32) * (ps_a s 1153 (Int32.toNatClampNeg x1)))) + 1 + 0))).toInt = 2 from by omega)⟩))
    · exact absurd (show (0 : Int32) ≠ (0 : Int32) from h11_k) (by decide)
  · have f12_k : (ps_a s 1134 (Int32.toNatClampNeg ((((0 : Int32) + ((41 : Int32) * (ps_a s 1153 (Int32.toNatClampNeg x1)))) + 1) + 0))).toInt = (2 : Int) := xeq h9_k
    refine And.intro (fun h13_k => ?_) (fun h13_k => ?_)
    · exact absurd (show (1 : Int32) = (0 : Int32) from h13_k) (by decide)
    · have f14_k : (1 : Int) ≠ (0 : Int) := xne h13_k
      refine pg_245_0 ?_
      refine ps_nd_i (show pm_in x1 40 = true from xgi (show 0 ≤ x1.toInt from by omega) (show x1.toInt < 40 from by omega)) ?_
      have r15_k : 0 ≤ (ps_a s 1154 (Int32.toNatClampNeg x1)).toInt ∧ (ps_a s 1154 (Int32.toNatClampNeg x1)).toInt ≤ 9999 := ma_1154 (i := x1) J (show 0 ≤ x1.toInt from by omega) (show x1.toInt < 40 from by omega)
      refine pg_242_0 ?_
      have a16_k : ((41 : Int32) * (ps_a s 1154 (Int32.toNatClampNeg x1))).toInt = (41 : Int) * (ps_a s 1154 (Int32.toNatClampNeg x1)).toInt := xIm (show -2147483648 ≤ (41 : Int) * (ps_a s 1154 (Int32.toNatClampNeg x1)).toInt from by omega) (show (41 : Int) * (ps_a s 1154 (Int32.toNatClampNeg x1)).toInt < 2147483648 from by omega)
      have a17_k : ((0 : Int32) + ((41 : Int32) * (ps_a s 1154 (Int32.toNatClampNeg x1)))).toInt = (0 : Int) + ((41 : Int32) * (ps_a s 1154 (Int32.toNatClampNeg x1))).toInt := xIa (show -2147483648 ≤ (0 : Int) + ((41 : Int32) * (ps_a s 1154 (Int32.toNatClampNeg x1))).toInt from by omega) (show (0 : Int) + ((41 : Int32) * (ps_a s 1154 (Int32.toNatClampNeg x1))).toInt < 2147483648 from by omega)
      refine pg_246_0 ?_
      refine ps_nd_i (show pm_in x1 40 = true from xgi (show 0 ≤ x1.toInt from by omega) (show x1.toInt < 40 from by omega)) ?_
      have r18_k : 0 ≤ (ps_a s 1155 (Int32.toNatClampNeg x1)).toInt ∧ (ps_a s 1155 (Int32.toNatClampNeg x1)).toInt ≤ 9999 := ma_1155 (i := x1) J (show 0 ≤ x1.toInt from by omega) (show x1.toInt < 40 from by omega)
      refine pg_242_0 ?_
      have a19_k : ((41 : Int32) * (ps_a s 1155 (Int32.toNatClampNeg x1))).toInt = (41 : Int) * (ps_a s 1155 (Int32.toNatClampNeg x1)).toInt := xIm (show -2147483648 ≤ (41 : Int) * (ps_a s 1155 (Int32.toNatClampNeg x1)).toInt from by omega) (show (41 : Int) * (ps_a s 1155 (Int32.toNatClampNeg x1)).toInt < 2147483648 from by omega)
      have a20_k : ((0 : Int32) + ((41 : Int32) * (ps_a s 1155 (Int32.toNatClampNeg x1)))).toInt = (0 : Int) + ((41 : Int32) * (ps_a s 1155 (Int32.toNatClampNeg x1))).toInt := xIa (show -2147483648 ≤ (0 : Int) + ((41 : Int32) * (ps_a s 1155 (Int32.toNatClampNeg x1))).toInt from by omega) (show (0 : Int) + ((41 : Int32) * (ps_a s 1155 (Int32.toNatClampNeg x1))).toInt < 2147483648 from by omega)
      refine ms_222 J (show ((0 : Int32) + ((41 : Int32) * (ps_a s 1154 (Int32.toNatClampNeg x1)))).toInt % 41 = 0 from by omega) (show 0 ≤ ((0 : Int32) + ((41 : Int32) * (ps_a s 1154 (Int32.toNatClampNeg x1)))).toInt from by omega) (show ((0 : Int32) + ((41 : Int32) * (ps_a s 1154 (Int32.toNatClampNeg x1)))).toInt < 27306 from by omega) (show ((0 : Int32) + ((41 : Int32) * (ps_a s 1155 (Int32.toNatClampNeg x1)))).toInt % 41 = 0 from by omega) (show 0 ≤ ((0 : Int32) + ((41 : Int32) * (ps_a s 1155 (Int32.toNatClampNeg x1)))).toInt from by omega) (show ((0 : Int32) + ((41 : Int32) * (ps_a s 1155 (Int32.toNatClampNeg x1)))).toInt < 27306 from by omega) (fun v21 b21 => ?_)
      refine And.intro (fun h22_k => ?_) (fun h22_k => ?_)
      · have f23_k : v21.toInt ≠ (0 : Int) := xne h22_k
        exact ms_256_47 (x1 := x1) (σ := σ) k  ((0 : Int32) + ((41 : Int32) * (ps_a s 1153 (Int32.toNatClampNeg x1)))) (1) _ J K hS hC hA hM hO (show 0 ≤ x1.toInt from by omega) (show x1.toInt < 40 from by omega) (show (ps_i s 1131 51).toInt ≤ 100 from by omega) (show (ps_i s 1131 51).toInt = (ps_i s 1131 51).toInt from by omega) (show (ps_a s 1152 (Int32.toNatClampNeg x1)).toInt = 8 from by omega) (show ((0 : Int32) + ((41 : Int32) * (ps_a s 1153 (Int32.toNatClampNeg x1)))).toInt = 41 * (ps_a s 1153 (Int32.toNatClampNeg x1)).toInt from by omega) (Or.inr ⟨rfl, (show (ps_a s 1134 (Int32.toNatClampNeg (((0 : Int32) + ((41 : Int32) * (ps_a s 1153 (Int32.toNatClampNeg x1)))) + 1 + 0))).toInt = 2 from by omega)⟩)
      · have f24_k : v21.toInt = (0 : Int) := xeq h22_k
        exact ms_256_42 (x1 := x1) (σ := σ) k  ((0 : Int32) + ((41 : Int32) * (ps_a s 1153 (Int32.toNatClampNeg x1)))) (1) _ J K hS hC hA hM hO (show 0 ≤ x1.toInt from by omega) (show x1.toInt < 40 from by omega) (show (ps_i s 1131 51).toInt ≤ 100 from by omega) (show (ps_i s 1131 51).toInt = (ps_i s 1131 51).toInt from by omega) (show (ps_a s 1152 (Int32.toNatClampNeg x1)).toInt = 8 from by omega) (show ((0 : Int32) + ((41 : Int32) * (ps_a s 1153 (Int32.toNatClampNeg x1)))).toInt = 41 * (ps_a s 1153 (Int32.toNatClampNeg x1)).toInt from by omega) ((by first | exact Or.inl rfl | exact Or.inr ⟨rfl, (show (ps_a s 1134 (Int32.toNatClampNeg (((0 : Int32) + ((41 : Int32) * (ps_a s 1153 (Int32.toNatClampNeg x1)))) + 1 + 0))).toInt = 2 from by omega)⟩))
end
section
set_option maxRecDepth 100000
-- ProofBenchModel.takesLess(I)V
theorem pg_255_0 {d : Nat} {x1 : Int32} {s : ps_S} {Q : Option Value → ps_S → Prop} (h :
  ps_Cl d 244 [.ref 1131, .int x1] s (ps_rI (fun v1 s1 =>
    ps_nd (pm_in x1 40) (((ps_a s1 1152 (Int32.toNatClampNeg x1)) ≠ 8 →
      ps_nd (pm_in x1 40) (((ps_a s1 1152 (Int32.toNatClampNeg x1)) ≠ 9 →
        ps_nd (pm_in x1 40) (((ps_a s1 1152 (Int32.toNatClampNeg x1)) = 10 →
          ps_At (d + 1) 255 165 [(0, .ref 1131), (1, .int x1), (2, .int v1), (3, .int ((22468 : Int32) + ((41 : Int32) * x1)))] [] s1 Q) ∧
        ((ps_a s1 1152 (Int32.toNatClampNeg x1)) ≠ 10 →
          ps_Cl d 247 [.ref 1131, .int v1] s1 (ps_rI (fun v2 s2 =>
            (v2 = 0 →
              ps_At (d + 1) 255 165 [(0, .ref 1131), (1, .int x1), (2, .int v1), (3, .int ((22468 : Int32) + ((41 : Int32) * x1)))] [] s2 Q) ∧
            (v2 ≠ 0 →
              ps_Cl d 241 [.ref 1131, .int 2] s2 (ps_rV (fun s3 =>
                ps_At (d + 1) 255 165 [(0, .ref 1131), (1, .int x1), (2, .int v1), (3, .int ((22468 : Int32) + ((41 : Int32) * x1)))] [] s3 Q)))))))) ∧
      ((ps_a s1 1152 (Int32.toNatClampNeg x1)) = 9 →
        ps_Cl d 247 [.ref 1131, .int v1] s1 (ps_rI (fun v4 s4 =>
          (v4 ≠ 3 →
            ps_Cl d 226 [.ref 1131, .int v1, .int 1, .int 0] s4 (ps_rV (fun s5 =>
              ((0 : Int32) = 0 →
                ps_At (d + 1) 255 89 [(0, .ref 1131), (1, .int x1), (2, .int v1), (4, .int 0)] [] s5 Q) ∧
              ((0 : Int32) ≠ 0 →
                ps_Cl d 245 [.ref 1131, .int x1] s5 (ps_rI (fun v6 s6 =>
                  ps_Cl d 230 [.ref 1131, .int v6] s6 (ps_rI (fun v7 s7 =>
                    (v7 ≠ 0 →
                      ps_At (d + 1) 255 94 [(0, .ref 1131), (1, .int x1), (2, .int v1), (4, .int 0)] [] s7 Q) ∧
                    (v7 = 0 →
                      ps_At (d + 1) 255 89 [(0, .ref 1131), (1, .int x1), (2, .int v1), (4, .int 0)] [] s7 Q))))))))) ∧
          (v4 = 3 →
            ps_Cl d 221 [.ref 1131, .int v1, .int 1] s4 (ps_rI (fun v8 s8 =>
              ps_Cl d 226 [.ref 1131, .int v1, .int 1, .int v8] s8 (ps_rV (fun s9 =>
                (v8 = 0 →
                  ps_At (d + 1) 255 89 [(0, .ref 1131), (1, .int x1), (2, .int v1), (4, .int v8)] [] s9 Q) ∧
                (v8 ≠ 0 →
                  ps_Cl d 245 [.ref 1131, .int x1] s9 (ps_rI (fun v10 s10 =>
                    ps_Cl d 230 [.ref 1131, .int v10] s10 (ps_rI (fun v11 s11 =>
                      (v11 ≠ 0 →
                        ps_At (d + 1) 255 94 [(0, .ref 1131), (1, .int x1), (2, .int v1), (4, .int v8)] [] s11 Q) ∧
                      (v11 = 0 →
                        ps_At (d + 1) 255 89 [(0, .ref 1131), (1, .int x1), (2, .int v1), (4, .int v8)] [] s11 Q)))))))))))))))) ∧
    ((ps_a s1 1152 (Int32.toNatClampNeg x1)) = 8 →
      ps_Cl d 256 [.ref 1131, .int x1] s1 (ps_rV (fun s12 =>
        Q none s12))))))) : ps_At (d + 1) 255 0 [(0, .ref 1131), (1, .int x1)] [] s Q :=
  ps_wp_at (stops := [(89, [0, 1, 2, 4]), (94, [0, 1, 2, 4]), (116, [0, 1]), (165, [0, 1, 2, 3]), (181, [0, 1, 2, 3]), (207, [0, 1, 2, 3]), (255, [0, 1, 2, 3])]) (n := 80) h rfl

theorem pg_255_89 {d : Nat} {x1 : Int32} {x2 : Int32} {x4 : Int32} {s : ps_S} {Q : Option Value → ps_S → Prop} (h :
  ps_Cl d 241 [.ref 1131, .int 2] s (ps_rV (fun s1 =>
    ps_At (d + 1) 255 94 [(0, .ref 1131), (1, .int x1), (2, .int x2), (4, .int x4)] [] s1 Q))) : ps_At (d + 1) 255 89 [(0, .ref 1131), (1, .int x1), (2, .int x2), (4, .int x4)] [] s Q :=
  ps_wp_at (stops := [(89, [0, 1, 2, 4]), (94, [0, 1, 2, 4]), (116, [0, 1]), (165, [0, 1, 2, 3]), (181, [0, 1, 2, 3]), (207, [0, 1, 2, 3]), (255, [0, 1, 2, 3])]) (n := 5) h rfl

theorem pg_255_94 {d : Nat} {x1 : Int32} {x2 : Int32} {x4 : Int32} {s : ps_S} {Q : Option Value → ps_S → Prop} (h :
  (x4 ≤ 0 →
    ps_At (d + 1) 255 116 [(0, .ref 1131), (1, .int x1)] [] (ps_ui s 1131 34 0) Q) ∧
  (0 < x4 →
    ps_Cl d 219 [.ref 1131, .int x2] (ps_ui s 1131 34 0) (ps_rI (fun v1 s1 =>
      ps_Cl d 226 [.ref 1131, .int x2, .int x4, .int v1] s1 (ps_rV (fun s2 =>
        ps_At (d + 1) 255 116 [(0, .ref 1131), (1, .int x1)] [] s2 Q)))))) : ps_At (d + 1) 255 94 [(0, .ref 1131), (1, .int x1), (2, .int x2), (4, .int x4)] [] s Q :=
  ps_wp_at (stops := [(89, [0, 1, 2, 4]), (94, [0, 1, 2, 4]), (116, [0, 1]), (165, [0, 1, 2, 3]), (181, [0, 1, 2, 3]), (207, [0, 1, 2, 3]), (255, [0, 1, 2, 3])]) (n := 14) h rfl

theorem pg_255_116 {d : Nat} {x1 : Int32} {s : ps_S} {Q : Option Value → ps_S → Prop} (h :
  ps_nd (pm_in x1 40) (ps_Cl d 249 [.ref 1131, .int x1, .int (ps_a s 1153 (Int32.toNatClampNeg x1)), .int 0] s (ps_rV (fun s1 =>
    ps_nd (pm_in x1 40) (ps_Cl d 249 [.ref 1131, .int x1, .int (ps_a s1 1154 (Int32.toNatClampNeg x1)), .int 0] s1 (ps_rV (fun s2 =>
      Q none s2))))))) : ps_At (d + 1) 255 116 [(0, .ref 1131), (1, .int x1)] [] s Q :=
  ps_wp_at (stops := [(89, [0, 1, 2, 4]), (94, [0, 1, 2, 4]), (116, [0, 1]), (165, [0, 1, 2, 3]), (181, [0, 1, 2, 3]), (207, [0, 1, 2, 3]), (255, [0, 1, 2, 3])]) (n := 19) h rfl

theorem pg_255_165 {d : Nat} {x1 : Int32} {x2 : Int32} {x3 : Int32} {s : ps_S} {Q : Option Value → ps_S → Prop} (h :
  ps_nd (pm_in x1 40) (((ps_a s 1152 (Int32.toNatClampNeg x1)) ≠ 10 →
    ps_At (d + 1) 255 181 [(0, .ref 1131), (1, .int x1), (2, .int x2), (3, .int x3)] [] s Q) ∧
  ((ps_a s 1152 (Int32.toNatClampNeg x1)) = 10 →
    ps_Cl d 227 [.ref 1131, .int x3] s (ps_rV (fun s1 =>
      ps_At (d + 1) 255 181 [(0, .ref 1131), (1, .int x1), (2, .int x2), (3, .int x3)] [] s1 Q))))) : ps_At (d + 1) 255 165 [(0, .ref 1131), (1, .int x1), (2, .int x2), (3, .int x3)] [] s Q :=
  ps_wp_at (stops := [(89, [0, 1, 2, 4]), (94, [0, 1, 2, 4]), (116, [0, 1]), (165, [0, 1, 2, 3]), (181, [0, 1, 2, 3]), (207, [0, 1, 2, 3]), (255, [0, 1, 2, 3])]) (n := 11) h rfl

theorem pg_255_181 {d : Nat} {x1 : Int32} {x2 : Int32} {x3 : Int32} {s : ps_S} {Q : Option Value → ps_S → Prop} (h :
  ps_nd (pm_in x1 40) (((ps_a s 1152 (Int32.toNatClampNeg x1)) ≠ 18 →
    ps_At (d + 1) 255 207 [(0, .ref 1131), (1, .int x1), (2, .int x2), (3, .int x3)] [] s Q) ∧
  ((ps_a s 1152 (Int32.toNatClampNeg x1)) = 18 →
    ps_Cl d 225 [.ref 1131, .int 3] s (ps_rV (fun s1 =>
      ps_Cl d 227 [.ref 1131, .int x3] s1 (ps_rV (fun s2 =>
        ps_Cl d 225 [.ref 1131, .int 0] s2 (ps_rV (fun s3 =>
          ps_At (d + 1) 255 207 [(0, .ref 1131), (1, .int x1), (2, .int x2), (3, .int x3)] [] s3 Q))))))))) : ps_At (d + 1) 255 181 [(0, .ref 1131), (1, .int x1), (2, .int x2), (3, .int x3)] [] s Q :=
  ps_wp_at (stops := [(89, [0, 1, 2, 4]), (94, [0, 1, 2, 4]), (116, [0, 1]), (165, [0, 1, 2, 3]), (181, [0, 1, 2, 3]), (207, [0, 1, 2, 3]), (255, [0, 1, 2, 3])]) (n := 17) h rfl

theorem pg_255_207 {d : Nat} {x1 : Int32} {x2 : Int32} {x3 : Int32} {s : ps_S} {Q : Option Value → ps_S → Prop} (h :
  ps_nd (pm_in x1 40) (ps_nd (pm_in x1 40) (((ps_a s 1152 (Int32.toNatClampNeg x1)) = 17 →
    ps_Cl d 249 [.ref 1131, .int x1, .int (ps_a s 1153 (Int32.toNatClampNeg x1)), .int 0] s (ps_rV (fun s1 =>
      ps_nd (pm_in x1 40) (((ps_a (ps_ui s1 1131 34 0) 1152 (Int32.toNatClampNeg x1)) ≠ 10 →
        ps_At (d + 1) 255 255 [(0, .ref 1131), (1, .int x1), (2, .int x2), (3, .int x3)] [] (ps_ui s1 1131 34 0) Q) ∧
      ((ps_a (ps_ui s1 1131 34 0) 1152 (Int32.toNatClampNeg x1)) = 10 →
        ps_Cl d 225 [.ref 1131, .int 3] (ps_ui s1 1131 34 0) (ps_rV (fun s2 =>
          ps_At (d + 1) 255 255 [(0, .ref 1131), (1, .int x1), (2, .int x2), (3, .int x3)] [] s2 Q))))))) ∧
  ((ps_a s 1152 (Int32.toNatClampNeg x1)) ≠ 17 →
    ps_Cl d 249 [.ref 1131, .int x1, .int (ps_a s 1153 (Int32.toNatClampNeg x1)), .int 1] s (ps_rV (fun s3 =>
      ps_nd (pm_in x1 40) (((ps_a (ps_ui s3 1131 34 0) 1152 (Int32.toNatClampNeg x1)) ≠ 10 →
        ps_At (d + 1) 255 255 [(0, .ref 1131), (1, .int x1), (2, .int x2), (3, .int x3)] [] (ps_ui s3 1131 34 0) Q) ∧
      ((ps_a (ps_ui s3 1131 34 0) 1152 (Int32.toNatClampNeg x1)) = 10 →
        ps_Cl d 225 [.ref 1131, .int 3] (ps_ui s3 1131 34 0) (ps_rV (fun s4 =>
          ps_At (d + 1) 255 255 [(0, .ref 1131), (1, .int x1), (2, .int x2), (3, .int x3)] [] s4 Q)))))))))) : ps_At (d + 1) 255 207 [(0, .ref 1131), (1, .int x1), (2, .int x2), (3, .int x3)] [] s Q :=
  ps_wp_at (stops := [(89, [0, 1, 2, 4]), (94, [0, 1, 2, 4]), (116, [0, 1]), (165, [0, 1, 2, 3]), (181, [0, 1, 2, 3]), (207, [0, 1, 2, 3]), (255, [0, 1, 2, 3])]) (n := 43) h rfl

theorem pg_255_255 {d : Nat} {x1 : Int32} {x2 : Int32} {x3 : Int32} {s : ps_S} {Q : Option Value → ps_S → Prop} (h :
  ps_Cl d 227 [.ref 1131, .int x3] s (ps_rV (fun s1 =>
    ps_nd (pm_in x1 40) (((ps_a s1 1152 (Int32.toNatClampNeg x1)) ≠ 10 →
      Q none s1) ∧
    ((ps_a s1 1152 (Int32.toNatClampNeg x1)) = 10 →
      ps_Cl d 227 [.ref 1131, .int x2] s1 (ps_rV (fun s2 =>
        Q none s2))))))) : ps_At (d + 1) 255 255 [(0, .ref 1131), (1, .int x1), (2, .int x2), (3, .int x3)] [] s Q :=
  ps_wp_at (stops := [(89, [0, 1, 2, 4]), (94, [0, 1, 2, 4]), (116, [0, 1]), (165, [0, 1, 2, 3]), (181, [0, 1, 2, 3]), (207, [0, 1, 2, 3]), (255, [0, 1, 2, 3])]) (n := 16) h rfl

theorem ms_255_116 {x : Nat → Nat → Nat} {t : Int32} {d : Nat} {s0 : ps_S} {σ : mSig} {x1 : Int32} {Q : Option Value → ps_S → Prop} (k : ∀ (s' : ps_S), mJ x t s' → kp [1134, 1149] [34, 50, 51] s0 s' → (As σ (ps_a s' 1134) x1.toInt (ps_i s' 1131 51).toInt) → (OutB (ps_a s0 1134) (ps_a s' 1134) x1.toInt) → ((ps_i s0 1131 51).toInt ≤ (ps_i s' 1131 51).toInt) → ((ps_i s' 1131 51).toInt ≤ (ps_i s0 1131 51).toInt + 36) → (Res σ (ps_a s' 1149) (ps_i s' 1131 34).toInt (ps_i s' 1131 50).toInt) → Q none s') (s : ps_S) (J : mJ x t s) (K : kp [1134, 1149] [34, 50, 51] s0 s) (hS : Sg (ps_a s 1135) (ps_a s 1136) (ps_a s 1138) (ps_a s 1139) (ps_i s 1131 21).toInt σ) (hC : SC σ (ps_a s 1134) (ps_a s 1157) (ps_a s 1152) (ps_a s 1153) (ps_a s 1154) (ps_a s 1155) (ps_i s 1131 21).toInt x1.toInt) (hA : As σ (ps_a s 1134) x1.toInt (ps_i s 1131 51).toInt) (hO : OutB (ps_a s0 1134) (ps_a s 1134) x1.toInt) (i4_k : 0 ≤ x1.toInt) (i5_k : x1.toInt < 40) (i6_k : (ps_i s0 1131 51).toInt ≤ 100) (i7_k : (ps_i s 1131 51).toInt = (ps_i s0 1131 51).toInt) (i8_k : (ps_a s 1152 (Int32.toNatClampNeg x1)).toInt = 9) (hRs : Res σ (ps_a s 1149) (ps_i s 1131 34).toInt (ps_i s 1131 50).toInt) : ps_At (d + 5) 255 116 [(0, .ref 1131), (1, .int x1)] [] s Q := by
  have r1_k := mf_51 J
  have r2_k : 0 ≤ (ps_a s 1152 (Int32.toNatClampNeg x1)).toInt ∧ (ps_a s 1152 (Int32.toNatClampNeg x1)).toInt ≤ 18 := ma_1152 (i := x1) J (show 0 ≤ x1.toInt from by omega) (show x1.toInt < 40 from by omega)
  refine pg_255_116 (d := d + 4) ?_
  have q1_k := SC_l1 hC rfl ⟨by omega, by omega, by omega, by omega⟩
  have q2_k := SC_l2 hC rfl (Or.inr (Or.inl (by omega)))
  have g0 := SC_g0 hC rfl
  refine ps_nd_i (show pm_in x1 40 = true from xgi (show 0 ≤ x1.toInt from by omega) (show x1.toInt < 40 from by omega)) ?_
  have r3_k : -1 ≤ (ps_a s 1153 (Int32.toNatClampNeg x1)).toInt ∧ (ps_a s 1153 (Int32.toNatClampNeg x1)).toInt ≤ 9999 := ma_1153 (i := x1) J (show 0 ≤ x1.toInt from by omega) (show x1.toInt < 40 from by omega)
  refine ms_249 J hA ((SC_p hC)) (show 0 ≤ x1.toInt from by omega) (show x1.toInt < 40 from by omega) (show 0 ≤ (ps_a s 1153 (Int32.toNatClampNeg x1)).toInt from by omega) (show (ps_a s 1153 (Int32.toNatClampNeg x1)).toInt < x1.toInt from by omega) (show (ps_i s 1131 51).toInt ≤ 800 from by omega) (fun s4 J4 K4 p4_0 p4_1 p4_2 p4_3 => ?_)
  have K5 := kpt K K4 rfl rfl
  have KC := K4
  have hS : Sg (ps_a s4 1135) (ps_a s4 1136) (ps_a s4 1138) (ps_a s4 1139) (ps_i s4 1131 21).toInt σ := by rw [show ps_a s4 1135 = ps_a s 1135 from (K4.2 1135 rfl).1, show ps_a s4 1136 = ps_a s 1136 from (K4.2 1136 rfl).1, show ps_a s4 1138 = ps_a s 1138 from (K4.2 1138 rfl).1, show ps_a s4 1139 = ps_a s 1139 from (K4.2 1139 rfl).1, show ps_i s4 1131 21 = ps_i s 1131 21 from kp_i K4 21 rfl]; exact hS
  have hRs : Res σ (ps_a s4 1149) (ps_i s4 1131 34).toInt (ps_i s4 1131 50).toInt := by rw [show ps_a s4 1149 = ps_a s 1149 from (K4.2 1149 rfl).1, show ps_i s4 1131 34 = ps_i s 1131 34 from kp_i K4 34 rfl, show ps_i s4 1131 50 = ps_i s 1131 50 from kp_i K4 50 rfl]; exact hRs
  have p4_2' : (ps_i s 1131 51).toInt ≤ (ps_i s4 1131 51).toInt := p4_2
  have r6_k := mf_51 J4
  have p4_3' : (ps_i s4 1131 51).toInt ≤ (ps_i s 1131 51).toInt + 12 := p4_3
  have hA : As σ (ps_a s4 1134) x1.toInt (ps_i s4 1131 51).toInt := p4_0
  have ho : _ := p4_1
  have hO := OutB_tr hO ho
  have hC : SC σ (ps_a s4 1134) (ps_a s4 1157) (ps_a s4 1152) (ps_a s4 1153) (ps_a s4 1154) (ps_a s4 1155) (ps_i s4 1131 21).toInt x1.toInt := by rw [show ps_a s4 1157 = ps_a s 1157 from (KC.2 1157 rfl).1, show ps_a s4 1152 = ps_a s 1152 from (KC.2 1152 rfl).1, show ps_a s4 1153 = ps_a s 1153 from (KC.2 1153 rfl).1, show ps_a s4 1154 = ps_a s 1154 from (KC.2 1154 rfl).1, show ps_a s4 1155 = ps_a s 1155 from (KC.2 1155 rfl).1, show ps_i s4 1131 21 = ps_i s 1131 21 from kp_i KC 21 rfl]; exact SC_out hC ho
  refine ps_nd_i (show pm_in x1 40 = true from xgi (show 0 ≤ x1.toInt from by omega) (show x1.toInt < 40 from by omega)) ?_
  have r7_k : 0 ≤ (ps_a s4 1154 (Int32.toNatClampNeg x1)).toInt ∧ (ps_a s4 1154 (Int32.toNatClampNeg x1)).toInt ≤ 9999 := ma_1154 (i := x1) J4 (show 0 ≤ x1.toInt from by omega) (show x1.toInt < 40 from by omega)
  have u8 : (ps_a s4 1154 (Int32.toNatClampNeg x1)).toInt = (ps_a s 1154 (Int32.toNatClampNeg x1)).toInt := xeq (kp_a K4 1154 rfl _)
  have r9_k : 0 ≤ (ps_a s 1154 (Int32.toNatClampNeg x1)).toInt ∧ (ps_a s 1154 (Int32.toNatClampNeg x1)).toInt ≤ 9999 := ma_1154 (i := x1) J (show 0 ≤ x1.toInt from by omega) (show x1.toInt < 40 from by omega)
  refine ms_249 J4 hA ((SC_p hC)) (show 0 ≤ x1.toInt from by omega) (show x1.toInt < 40 from by omega) (show 0 ≤ (ps_a s4 1154 (Int32.toNatClampNeg x1)).toInt from by omega) (show (ps_a s4 1154 (Int32.toNatClampNeg x1)).toInt < x1.toInt from by omega) (show (ps_i s4 1131 51).toInt ≤ 800 from by omega) (fun s10 J10 K10 p10_0 p10_1 p10_2 p10_3 => ?_)
  have K11 := kpt K5 K10 rfl rfl
  have KC := K10
  have hS : Sg (ps_a s10 1135) (ps_a s10 1136) (ps_a s10 1138) (ps_a s10 1139) (ps_i s10 1131 21).toInt σ := by rw [show ps_a s10 1135 = ps_a s4 1135 from (K10.2 1135 rfl).1, show ps_a s10 1136 = ps_a s4 1136 from (K10.2 1136 rfl).1, show ps_a s10 1138 = ps_a s4 1138 from (K10.2 1138 rfl).1, show ps_a s10 1139 = ps_a s4 1139 from (K10.2 1139 rfl).1, show ps_i s10 1131 21 = ps_i s4 1131 21 from kp_i K10 21 rfl]; exact hS
  have hRs : Res σ (ps_a s10 1149) (ps_i s10 1131 34).toInt (ps_i s10 1131 50).toInt := by rw [show ps_a s10 1149 = ps_a s4 1149 from (K10.2 1149 rfl).1, show ps_i s10 1131 34 = ps_i s4 1131 34 from kp_i K10 34 rfl, show ps_i s10 1131 50 = ps_i s4 1131 50 from kp_i K10 50 rfl]; exact hRs
  have p10_2' : (ps_i s4 1131 51).toInt ≤ (ps_i s10 1131 51).toInt := p10_2
  have r12_k := mf_51 J10
  have p10_3' : (ps_i s10 1131 51).toInt ≤ (ps_i s4 1131 51).toInt + 12 := p10_3
  have hA : As σ (ps_a s10 1134) x1.toInt (ps_i s10 1131 51).toInt := p10_0
  have ho : _ := p10_1
  have hO := OutB_tr hO ho
  exact k _ J10 K11 hA hO (show (ps_i s0 1131 51).toInt ≤ (ps_i s10 1131 51).toInt from by omega) (show (ps_i s10 1131 51).toInt ≤ (ps_i s0 1131 51).toInt + 36 from by omega) hRs

theorem ms_255_94 {x : Nat → Nat → Nat} {t : Int32} {d : Nat} {s0 : ps_S} {σ : mSig} {x1 : Int32} {Q : Option Value → ps_S → Prop} (k : ∀ (s' : ps_S), mJ x t s' → kp [1134, 1149] [34, 50, 51] s0 s' → (As σ (ps_a s' 1134) x1.toInt (ps_i s' 1131 51).toInt) → (OutB (ps_a s0 1134) (ps_a s' 1134) x1.toInt) → ((ps_i s0 1131 51).toInt ≤ (ps_i s' 1131 51).toInt) → ((ps_i s' 1131 51).toInt ≤ (ps_i s0 1131 51).toInt + 36) → (Res σ (ps_a s' 1149) (ps_i s' 1131 34).toInt (ps_i s' 1131 50).toInt) → Q none s') (x2 : Int32) (x4 : Int32) (s : ps_S) (J : mJ x t s) (K : kp [1134, 1149] [34, 50, 51] s0 s) (hS : Sg (ps_a s 1135) (ps_a s 1136) (ps_a s 1138) (ps_a s 1139) (ps_i s 1131 21).toInt σ) (hC : SC σ (ps_a s 1134) (ps_a s 1157) (ps_a s 1152) (ps_a s 1153) (ps_a s 1154) (ps_a s 1155) (ps_i s 1131 21).toInt x1.toInt) (hA : As σ (ps_a s 1134) x1.toInt (ps_i s 1131 51).toInt) (hO : OutB (ps_a s0 1134) (ps_a s 1134) x1.toInt) (i4_k : 0 ≤ x1.toInt) (i5_k : x1.toInt < 40) (i6_k : (ps_i s0 1131 51).toInt ≤ 100) (i7_k : (ps_i s 1131 51).toInt = (ps_i s0 1131 51).toInt) (i8_k : (ps_a s 1152 (Int32.toNatClampNeg x1)).toInt = 9) (i9_k : x2.toInt = 41 * (ps_a s 1153 (Int32.toNatClampNeg x1)).toInt) (i10_k : (x4.toInt = 0 ∧ 1 ≤ (ps_i s 1131 50).toInt) ∨ (∃ p q : List Nat, Rw (ps_a s 1134) x2.toInt (3 :: (p ++ q)) ∧ ws σ p [true] ∧ ws σ q [true] ∧ x4.toInt = 1 + (p.length : Int))) : ps_At (d + 5) 255 94 [(0, .ref 1131), (1, .int x1), (2, .int x2), (4, .int x4)] [] s Q := by
  have r1_k := mf_51 J
  have r2_k : 0 ≤ (ps_a s 1152 (Int32.toNatClampNeg x1)).toInt ∧ (ps_a s 1152 (Int32.toNatClampNeg x1)).toInt ≤ 18 := ma_1152 (i := x1) J (show 0 ≤ x1.toInt from by omega) (show x1.toInt < 40 from by omega)
  have r3_k : -1 ≤ (ps_a s 1153 (Int32.toNatClampNeg x1)).toInt ∧ (ps_a s 1153 (Int32.toNatClampNeg x1)).toInt ≤ 9999 := ma_1153 (i := x1) J (show 0 ≤ x1.toInt from by omega) (show x1.toInt < 40 from by omega)
  refine pg_255_94 (d := d + 4) ?_
  have J4 := mwi_34 (v := (0 : Int32)) J (show 0 ≤ (0 : Int) from by omega) (show (0 : Int) ≤ 100000 from by omega)
  have K5 := kpi K (q := 34) (v := (0 : Int32)) rfl
  have hM : Md (ps_a (ps_ui s 1131 34 0) 1149) (ps_i (ps_ui s 1131 34 0) 1131 34).toInt ([] : List Nat) := Md_nil rfl
  refine And.intro (fun h6_k => ?_) (fun h6_k => ?_)
  · have f7_k : x4.toInt ≤ (0 : Int) := xle h6_k
    exact ms_255_116 (x1 := x1) (σ := σ) k   _ J4 K5 hS hC hA hO (show 0 ≤ x1.toInt from by omega) (show x1.toInt < 40 from by omega) (show (ps_i s0 1131 51).toInt ≤ 100 from by omega) (show (ps_i s 1131 51).toInt = (ps_i s0 1131 51).toInt from by omega) (show (ps_a s 1152 (Int32.toNatClampNeg x1)).toInt = 9 from by omega) (⟨[], hM, by decide, Or.inr ⟨rfl, (by rcases i10_k with z_k | ⟨p, q, z1_k, z2_k, z3_k, z4_k⟩; exact z_k.2; exact absurd z4_k (by omega))⟩⟩)
  · have f8_k : (0 : Int) < x4.toInt := xlt h6_k
    obtain ⟨p, q, z1_k, z2_k, z3_k, z4_k⟩ : ∃ p q : List Nat, Rw (ps_a s 1134) x2.toInt (3 :: (p ++ q)) ∧ ws σ p [true] ∧ ws σ q [true] ∧ x4.toInt = 1 + (p.length : Int) := by rcases i10_k with z_k | z_k; exact absurd z_k.1 (by omega); exact z_k
    have hlen := z1_k.2.2.2.1
    rw [List.length_cons, List.length_append] at hlen
    have w1 := z1_k.1
    have w2 := z1_k.2.1
    have w3 := z1_k.2.2.1
    refine pg_219_0 ?_
    refine ps_nd_i (show pm_in x2 27400 = true from xgi (show 0 ≤ x2.toInt from by omega) (show x2.toInt < 27400 from by omega)) ?_
    have r9_k : x2.toInt % 41 = 0 → x2.toInt < 27306 → 0 ≤ (ps_a s 1134 (Int32.toNatClampNeg x2)).toInt ∧ (ps_a s 1134 (Int32.toNatClampNeg x2)).toInt ≤ 40 := fun z1_k z2_k => mp_row (i := x2) J z1_k (show 0 ≤ x2.toInt from by omega) z2_k
    refine ms_226 J4 ((show Rw (ps_a (ps_ui s 1131 34 0) 1134) (x2).toInt (([3] ++ p) ++ (q ++ [])) from by rw [List.append_nil, List.append_assoc]; exact z1_k)) (hM) ((by rw [llen]; exact z4_k)) ((Or.inl ((Rw_n z1_k).trans (by simp only [List.length_cons, List.length_append, List.length_nil]; omega)))) ((by rw [List.length_nil]; omega)) (fun s10 J10 K10 p10_0 => ?_)
    have K11 := kpt K5 K10 rfl rfl
    have KC := K10
    have hS : Sg (ps_a s10 1135) (ps_a s10 1136) (ps_a s10 1138) (ps_a s10 1139) (ps_i s10 1131 21).toInt σ := by rw [show ps_a s10 1135 = ps_a (ps_ui s 1131 34 0) 1135 from (K10.2 1135 rfl).1, show ps_a s10 1136 = ps_a (ps_ui s 1131 34 0) 1136 from (K10.2 1136 rfl).1, show ps_a s10 1138 = ps_a (ps_ui s 1131 34 0) 1138 from (K10.2 1138 rfl).1, show ps_a s10 1139 = ps_a (ps_ui s 1131 34 0) 1139 from (K10.2 1139 rfl).1, show ps_i s10 1131 21 = ps_i (ps_ui s 1131 34 0) 1131 21 from kp_i K10 21 rfl]; exact hS
    have hC : SC σ (ps_a s10 1134) (ps_a s10 1157) (ps_a s10 1152) (ps_a s10 1153) (ps_a s10 1154) (ps_a s10 1155) (ps_i s10 1131 21).toInt x1.toInt := by rw [show ps_a s10 1134 = ps_a (ps_ui s 1131 34 0) 1134 from (K10.2 1134 rfl).1, show ps_a s10 1157 = ps_a (ps_ui s 1131 34 0) 1157 from (K10.2 1157 rfl).1, show ps_a s10 1152 = ps_a (ps_ui s 1131 34 0) 1152 from (K10.2 1152 rfl).1, show ps_a s10 1153 = ps_a (ps_ui s 1131 34 0) 1153 from (K10.2 1153 rfl).1, show ps_a s10 1154 = ps_a (ps_ui s 1131 34 0) 1154 from (K10.2 1154 rfl).1, show ps_a s10 1155 = ps_a (ps_ui s 1131 34 0) 1155 from (K10.2 1155 rfl).1, show ps_i s10 1131 21 = ps_i (ps_ui s 1131 34 0) 1131 21 from kp_i K10 21 rfl]; exact hC
    have hA : As σ (ps_a s10 1134) x1.toInt (ps_i s10 1131 51).toInt := by rw [show ps_a s10 1134 = ps_a (ps_ui s 1131 34 0) 1134 from (K10.2 1134 rfl).1, show ps_i s10 1131 51 = ps_i (ps_ui s 1131 34 0) 1131 51 from kp_i K10 51 rfl]; exact hA
    have hO : OutB (ps_a s0 1134) (ps_a s10 1134) x1.toInt := by rw [show ps_a s10 1134 = ps_a (ps_ui s 1131 34 0) 1134 from (K10.2 1134 rfl).1]; exact hO
    have hM1 : _ := p10_0
    have r12_k := mf_51 J10
    have u13 : (ps_i s10 1131 51).toInt = (ps_i s 1131 51).toInt := xeq (kp_i K10 51 rfl)
    have r14_k : 0 ≤ (ps_a s10 1152 (Int32.toNatClampNeg x1)).toInt ∧ (ps_a s10 1152 (Int32.toNatClampNeg x1)).toInt ≤ 18 := ma_1152 (i := x1) J10 (show 0 ≤ x1.toInt from by omega) (show x1.toInt < 40 from by omega)
    have u15 : (ps_a s10 1152 (Int32.toNatClampNeg x1)).toInt = (ps_a s 1152 (Int32.toNatClampNeg x1)).toInt := xeq (kp_a K10 1152 rfl _)
    exact ms_255_116 (x1 := x1) (σ := σ) k   _ J10 K11 hS hC hA hO (show 0 ≤ x1.toInt from by omega) (show x1.toInt < 40 from by omega) (show (ps_i s0 1131 51).toInt ≤ 100 from by omega) (show (ps_i s10 1131 51).toInt = (ps_i s0 1131 51).toInt from by omega) (show (ps_a s10 1152 (Int32.toNatClampNeg x1)).toInt = 9 from by omega) (⟨_, hM1, by rw [List.nil_append]; omega, Or.inl z3_k⟩)

theorem ms_255_89 {x : Nat → Nat → Nat} {t : Int32} {d : Nat} {s0 : ps_S} {σ : mSig} {x1 : Int32} {Q : Option Value → ps_S → Prop} (k : ∀ (s' : ps_S), mJ x t s' → kp [1134, 1149] [34, 50, 51] s0 s' → (As σ (ps_a s' 1134) x1.toInt (ps_i s' 1131 51).toInt) → (OutB (ps_a s0 1134) (ps_a s' 1134) x1.toInt) → ((ps_i s0 1131 51).toInt ≤ (ps_i s' 1131 51).toInt) → ((ps_i s' 1131 51).toInt ≤ (ps_i s0 1131 51).toInt + 36) → (Res σ (ps_a s' 1149) (ps_i s' 1131 34).toInt (ps_i s' 1131 50).toInt) → Q none s') (x2 : Int32) (x4 : Int32) (s : ps_S) (J : mJ x t s) (K : kp [1134, 1149] [34, 50, 51] s0 s) (hS : Sg (ps_a s 1135) (ps_a s 1136) (ps_a s 1138) (ps_a s 1139) (ps_i s 1131 21).toInt σ) (hC : SC σ (ps_a s 1134) (ps_a s 1157) (ps_a s 1152) (ps_a s 1153) (ps_a s 1154) (ps_a s 1155) (ps_i s 1131 21).toInt x1.toInt) (hA : As σ (ps_a s 1134) x1.toInt (ps_i s 1131 51).toInt) (hO : OutB (ps_a s0 1134) (ps_a s 1134) x1.toInt) (i4_k : 0 ≤ x1.toInt) (i5_k : x1.toInt < 40) (i6_k : (ps_i s0 1131 51).toInt ≤ 100) (i7_k : (ps_i s 1131 51).toInt = (ps_i s0 1131 51).toInt) (i8_k : (ps_a s 1152 (Int32.toNatClampNeg x1)).toInt = 9) (i9_k : x2.toInt = 41 * (ps_a s 1153 (Int32.toNatClampNeg x1)).toInt) (i10_k : (x4.toInt = 0) ∨ (∃ p q : List Nat, Rw (ps_a s 1134) x2.toInt (3 :: (p ++ q)) ∧ ws σ p [true] ∧ ws σ q [true] ∧ x4.toInt = 1 + (p.length : Int))) : ps_At (d + 5) 255 89 [(0, .ref 1131), (1, .int x1), (2, .int x2), (4, .int x4)] [] s Q := by
  have r1_k := mf_51 J
  have r2_k : 0 ≤ (ps_a s 1152 (Int32.toNatClampNeg x1)).toInt ∧ (ps_a s 1152 (Int32.toNatClampNeg x1)).toInt ≤ 18 := ma_1152 (i := x1) J (show 0 ≤ x1.toInt from by omega) (show x1.toInt < 40 from by omega)
  have r3_k : -1 ≤ (ps_a s 1153 (Int32.toNatClampNeg x1)).toInt ∧ (ps_a s 1153 (Int32.toNatClampNeg x1)).toInt ≤ 9999 := ma_1153 (i := x1) J (show 0 ≤ x1.toInt from by omega) (show x1.toInt < 40 from by omega)
  refine pg_255_89 (d := d + 4) ?_
  refine ms_241 J (show 1 ≤ (2 : Int) from by omega) (show (2 : Int) ≤ 5 from by omega) (fun s4 J4 K4 p4_0 => ?_)
  have K5 := kpt K K4 rfl rfl
  have KC := K4
  have hS : Sg (ps_a s4 1135) (ps_a s4 1136) (ps_a s4 1138) (ps_a s4 1139) (ps_i s4 1131 21).toInt σ := by rw [show ps_a s4 1135 = ps_a s 1135 from (K4.2 1135 rfl).1, show ps_a s4 1136 = ps_a s 1136 from (K4.2 1136 rfl).1, show ps_a s4 1138 = ps_a s 1138 from (K4.2 1138 rfl).1, show ps_a s4 1139 = ps_a s 1139 from (K4.2 1139 rfl).1, show ps_i s4 1131 21 = ps_i s 1131 21 from kp_i K4 21 rfl]; exact hS
  have hC : SC σ (ps_a s4 1134) (ps_a s4 1157) (ps_a s4 1152) (ps_a s4 1153) (ps_a s4 1154) (ps_a s4 1155) (ps_i s4 1131 21).toInt x1.toInt := by rw [show ps_a s4 1134 = ps_a s 1134 from (K4.2 1134 rfl).1, show ps_a s4 1157 = ps_a s 1157 from (K4.2 1157 rfl).1, show ps_a s4 1152 = ps_a s 1152 from (K4.2 1152 rfl).1, show ps_a s4 1153 = ps_a s 1153 from (K4.2 1153 rfl).1, show ps_a s4 1154 = ps_a s 1154 from (K4.2 1154 rfl).1, show ps_a s4 1155 = ps_a s 1155 from (K4.2 1155 rfl).1, show ps_i s4 1131 21 = ps_i s 1131 21 from kp_i K4 21 rfl]; exact hC
  have hA : As σ (ps_a s4 1134) x1.toInt (ps_i s4 1131 51).toInt := by rw [show ps_a s4 1134 = ps_a s 1134 from (K4.2 1134 rfl).1, show ps_i s4 1131 51 = ps_i s 1131 51 from kp_i K4 51 rfl]; exact hA
  have hO : OutB (ps_a s0 1134) (ps_a s4 1134) x1.toInt := by rw [show ps_a s4 1134 = ps_a s 1134 from (K4.2 1134 rfl).1]; exact hO
  have p4_0' : 1 ≤ (ps_i s4 1131 50).toInt := p4_0
  have r6_k := mf_50 J4
  have r7_k := mf_51 J4
  have u8 : (ps_i s4 1131 51).toInt = (ps_i s 1131 51).toInt := xeq (kp_i K4 51 rfl)
  have r9_k : 0 ≤ (ps_a s4 1152 (Int32.toNatClampNeg x1)).toInt ∧ (ps_a s4 1152 (Int32.toNatClampNeg x1)).toInt ≤ 18 := ma_1152 (i := x1) J4 (show 0 ≤ x1.toInt from by omega) (show x1.toInt < 40 from by omega)
  have u10 : (ps_a s4 1152 (Int32.toNatClampNeg x1)).toInt = (ps_a s 1152 (Int32.toNatClampNeg x1)).toInt := xeq (kp_a K4 1152 rfl _)
  have r11_k : -1 ≤ (ps_a s4 1153 (Int32.toNatClampNeg x1)).toInt ∧ (ps_a s4 1153 (Int32.toNatClampNeg x1)).toInt ≤ 9999 := ma_1153 (i := x1) J4 (show 0 ≤ x1.toInt from by omega) (show x1.toInt < 40 from by omega)
  have u12 : (ps_a s4 1153 (Int32.toNatClampNeg x1)).toInt = (ps_a s 1153 (Int32.toNatClampNeg x1)).toInt := xeq (kp_a K4 1153 rfl _)
  exact ms_255_94 (x1 := x1) (σ := σ) k  x2 x4 _ J4 K5 hS hC hA hO (show 0 ≤ x1.toInt from by omega) (show x1.toInt < 40 from by omega) (show (ps_i s0 1131 51).toInt ≤ 100 from by omega) (show (ps_i s4 1131 51).toInt = (ps_i s0 1131 51).toInt from by omega) (show (ps_a s4 1152 (Int32.toNatClampNeg x1)).toInt = 9 from by omega) (show x2.toInt = 41 * (ps_a s4 1153 (Int32.toNatClampNeg x1)).toInt from by omega) ((by rcases i10_k with z_k | ⟨p, q, z1_k, z2_k, z3_k, z4_k⟩; exact Or.inl ⟨z_k, show 1 ≤ (ps_i s4 1131 50).toInt from by omega⟩; exact Or.inr ⟨p, q, (by rw [show ps_a s4 1134 = ps_a s 1134 from (KC.2 1134 rfl).1]; exact z1_k), z2_k, z3_k, z4_k⟩))

theorem ms_255_255 {x : Nat → Nat → Nat} {t : Int32} {d : Nat} {s0 : ps_S} {σ : mSig} {x1 : Int32} {Q : Option Value → ps_S → Prop} (k : ∀ (s' : ps_S), mJ x t s' → kp [1134, 1149] [34, 50, 51] s0 s' → (As σ (ps_a s' 1134) x1.toInt (ps_i s' 1131 51).toInt) → (OutB (ps_a s0 1134) (ps_a s' 1134) x1.toInt) → ((ps_i s0 1131 51).toInt ≤ (ps_i s' 1131 51).toInt) → ((ps_i s' 1131 51).toInt ≤ (ps_i s0 1131 51).toInt + 36) → (Res σ (ps_a s' 1149) (ps_i s' 1131 34).toInt (ps_i s' 1131 50).toInt) → Q none s') (x2 : Int32) (x3 : Int32) (s : ps_S) (J : mJ x t s) (K : kp [1134, 1149] [34, 50, 51] s0 s) (hS : Sg (ps_a s 1135) (ps_a s 1136) (ps_a s 1138) (ps_a s 1139) (ps_i s 1131 21).toInt σ) (hC : SC σ (ps_a s 1134) (ps_a s 1157) (ps_a s 1152) (ps_a s 1153) (ps_a s 1154) (ps_a s 1155) (ps_i s 1131 21).toInt x1.toInt) (hA : As σ (ps_a s 1134) x1.toInt (ps_i s 1131 51).toInt) (hO : OutB (ps_a s0 1134) (ps_a s 1134) x1.toInt) (i4_k : 0 ≤ x1.toInt) (i5_k : x1.toInt < 40) (i6_k : (ps_i s0 1131 51).toInt ≤ 100) (i7_k : (ps_i s0 1131 51).toInt ≤ (ps_i s 1131 51).toInt) (i8_k : (ps_i s 1131 51).toInt ≤ (ps_i s0 1131 51).toInt + 12) (i9_k : (ps_a s 1152 (Int32.toNatClampNeg x1)).toInt = 10 ∨ (ps_a s 1152 (Int32.toNatClampNeg x1)).toInt = 17 ∨ (ps_a s 1152 (Int32.toNatClampNeg x1)).toInt = 18) (i10_k : x2.toInt = 41 * (ps_a s 1153 (Int32.toNatClampNeg x1)).toInt) (i11_k : x3.toInt = 22468 + 41 * x1.toInt) (i12_k : ∃ ml, Md (ps_a s 1149) (ps_i s 1131 34).toInt ml ∧ ml.length ≤ 5 ∧ ((ps_a s 1152 (Int32.toNatClampNeg x1)).toInt = 10 → ∀ m : List Nat, ws σ m [true, true] → ws σ (ml ++ m) [true]) ∧ ((ps_a s 1152 (Int32.toNatClampNeg x1)).toInt ≠ 10 → ml = [])) : ps_At (d + 5) 255 255 [(0, .ref 1131), (1, .int x1), (2, .int x2), (3, .int x3)] [] s Q := by
  have r1_k := mf_51 J
  have r2_k : 0 ≤ (ps_a s 1152 (Int32.toNatClampNeg x1)).toInt ∧ (ps_a s 1152 (Int32.toNatClampNeg x1)).toInt ≤ 18 := ma_1152 (i := x1) J (show 0 ≤ x1.toInt from by omega) (show x1.toInt < 40 from by omega)
  have r3_k : -1 ≤ (ps_a s 1153 (Int32.toNatClampNeg x1)).toInt ∧ (ps_a s 1153 (Int32.toNatClampNeg x1)).toInt ≤ 9999 := ma_1153 (i := x1) J (show 0 ≤ x1.toInt from by omega) (show x1.toInt < 40 from by omega)
  refine pg_255_255 (d := d + 4) ?_
  obtain ⟨ml, hm1, hm2, hm3, hm4⟩ := i12_k
  have hB := SC_1i hC rfl ⟨by omega, by omega, by omega, by omega⟩
  obtain ⟨l, hl1, hl2⟩ := SC_f (j := x3) hC rfl (by omega) (by omega)
  have hlen := hl1.2.2.2.1
  refine ms_227 J (hl1) (hm1) ((by omega)) (fun s4 J4 K4 p4_0 => ?_)
  have K5 := kpt K K4 rfl rfl
  have KC := K4
  have hS : Sg (ps_a s4 1135) (ps_a s4 1136) (ps_a s4 1138) (ps_a s4 1139) (ps_i s4 1131 21).toInt σ := by rw [show ps_a s4 1135 = ps_a s 1135 from (K4.2 1135 rfl).1, show ps_a s4 1136 = ps_a s 1136 from (K4.2 1136 rfl).1, show ps_a s4 1138 = ps_a s 1138 from (K4.2 1138 rfl).1, show ps_a s4 1139 = ps_a s 1139 from (K4.2 1139 rfl).1, show ps_i s4 1131 21 = ps_i s 1131 21 from kp_i K4 21 rfl]; exact hS
  have hC : SC σ (ps_a s4 1134) (ps_a s4 1157) (ps_a s4 1152) (ps_a s4 1153) (ps_a s4 1154) (ps_a s4 1155) (ps_i s4 1131 21).toInt x1.toInt := by rw [show ps_a s4 1134 = ps_a s 1134 from (K4.2 1134 rfl).1, show ps_a s4 1157 = ps_a s 1157 from (K4.2 1157 rfl).1, show ps_a s4 1152 = ps_a s 1152 from (K4.2 1152 rfl).1, show ps_a s4 1153 = ps_a s 1153 from (K4.2 1153 rfl).1, show ps_a s4 1154 = ps_a s 1154 from (K4.2 1154 rfl).1, show ps_a s4 1155 = ps_a s 1155 from (K4.2 1155 rfl).1, show ps_i s4 1131 21 = ps_i s 1131 21 from kp_i K4 21 rfl]; exact hC
  have hA : As σ (ps_a s4 1134) x1.toInt (ps_i s4 1131 51).toInt := by rw [show ps_a s4 1134 = ps_a s 1134 from (K4.2 1134 rfl).1, show ps_i s4 1131 51 = ps_i s 1131 51 from kp_i K4 51 rfl]; exact hA
  have hO : OutB (ps_a s0 1134) (ps_a s4 1134) x1.toInt := by rw [show ps_a s4 1134 = ps_a s 1134 from (K4.2 1134 rfl).1]; exact hO
  have hB : Fm σ (ps_a s4 1134) ((41 * (ps_a s 1153 (Int32.toNatClampNeg x1)).toInt)) := by rw [show ps_a s4 1134 = ps_a s 1134 from (K4.2 1134 rfl).1]; exact hB
  have hM2 : Md (ps_a s4 1149) (ps_i s4 1131 34).toInt (ml ++ l) := p4_0
  refine ps_nd_i (show pm_in x1 40 = true from xgi (show 0 ≤ x1.toInt from by omega) (show x1.toInt < 40 from by omega)) ?_
  have r6_k : 0 ≤ (ps_a s4 1152 (Int32.toNatClampNeg x1)).toInt ∧ (ps_a s4 1152 (Int32.toNatClampNeg x1)).toInt ≤ 18 := ma_1152 (i := x1) J4 (show 0 ≤ x1.toInt from by omega) (show x1.toInt < 40 from by omega)
  have u7 : (ps_a s4 1152 (Int32.toNatClampNeg x1)).toInt = (ps_a s 1152 (Int32.toNatClampNeg x1)).toInt := xeq (kp_a K4 1152 rfl _)
  refine And.intro (fun h8_k => ?_) (fun h8_k => ?_)
  · have f9_k : (ps_a s4 1152 (Int32.toNatClampNeg x1)).toInt ≠ (10 : Int) := xne h8_k
    have r10_k := mf_51 J4
    have u11 : (ps_i s4 1131 51).toInt = (ps_i s 1131 51).toInt := xeq (kp_i K4 51 rfl)
    exact k _ J4 K5 hA hO (show (ps_i s0 1131 51).toInt ≤ (ps_i s4 1131 51).toInt from by omega) (show (ps_i s4 1131 51).toInt ≤ (ps_i s0 1131 51).toInt + 36 from by omega) ((by first | exact ⟨_, hM3, by simp only [List.length_append]; omega, Or.inl (by rw [List.append_assoc]; exact hm3 (by omega) (l ++ la) (ws_app (W1 := [true]) (W2 := [true]) (wf_ws hl2) (wf_ws hla2)))⟩ | exact ⟨_, hM2, by simp only [List.length_append]; omega, Or.inl (by rw [hm4 (by omega)]; exact wf_ws hl2)⟩))
  · have f12_k : (ps_a s4 1152 (Int32.toNatClampNeg x1)).toInt = (10 : Int) := xeq h8_k
    obtain ⟨la, hla1, hla2⟩ := id hB
    have hlen2 := hla1.2.2.2.1
    refine ms_227 J4 ((show Rw (ps_a s4 1134) (x2).toInt la from by rw [show (x2).toInt = (41 * (ps_a s 1153 (Int32.toNatClampNeg x1)).toInt) from by omega]; exact hla1)) (hM2) ((by rw [List.length_append]; omega)) (fun s13 J13 K13 p13_0 => ?_)
    have K14 := kpt K5 K13 rfl rfl
    have KC := K13
    have hS : Sg (ps_a s13 1135) (ps_a s13 1136) (ps_a s13 1138) (ps_a s13 1139) (ps_i s13 1131 21).toInt σ := by rw [show ps_a s13 1135 = ps_a s4 1135 from (K13.2 1135 rfl).1, show ps_a s13 1136 = ps_a s4 1136 from (K13.2 1136 rfl).1, show ps_a s13 1138 = ps_a s4 1138 from (K13.2 1138 rfl).1, show ps_a s13 1139 = ps_a s4 1139 from (K13.2 1139 rfl).1, show ps_i s13 1131 21 = ps_i s4 1131 21 from kp_i K13 21 rfl]; exact hS
    have hC : SC σ (ps_a s13 1134) (ps_a s13 1157) (ps_a s13 1152) (ps_a s13 1153) (ps_a s13 1154) (ps_a s13 1155) (ps_i s13 1131 21).toInt x1.toInt := by rw [show ps_a s13 1134 = ps_a s4 1134 from (K13.2 1134 rfl).1, show ps_a s13 1157 = ps_a s4 1157 from (K13.2 1157 rfl).1, show ps_a s13 1152 = ps_a s4 1152 from (K13.2 1152 rfl).1, show ps_a s13 1153 = ps_a s4 1153 from (K13.2 1153 rfl).1, show ps_a s13 1154 = ps_a s4 1154 from (K13.2 1154 rfl).1, show ps_a s13 1155 = ps_a s4 1155 from (K13.2 1155 rfl).1, show ps_i s13 1131 21 = ps_i s4 1131 21 from kp_i K13 21 rfl]; exact hC
    have hA : As σ (ps_a s13 1134) x1.toInt (ps_i s13 1131 51).toInt := by rw [show ps_a s13 1134 = ps_a s4 1134 from (K13.2 1134 rfl).1, show ps_i s13 1131 51 = ps_i s4 1131 51 from kp_i K13 51 rfl]; exact hA
    have hO : OutB (ps_a s0 1134) (ps_a s13 1134) x1.toInt := by rw [show ps_a s13 1134 = ps_a s4 1134 from (K13.2 1134 rfl).1]; exact hO
    have hB : Fm σ (ps_a s13 1134) ((41 * (ps_a s 1153 (Int32.toNatClampNeg x1)).toInt)) := by rw [show ps_a s13 1134 = ps_a s4 1134 from (K13.2 1134 rfl).1]; exact hB
    have hM3 : Md (ps_a s13 1149) (ps_i s13 1131 34).toInt ((ml ++ l) ++ la) := p13_0
    have r15_k := mf_51 J13
    have u16 : (ps_i s13 1131 51).toInt = (ps_i s4 1131 51).toInt := xeq (kp_i K13 51 rfl)
    have r17_k := mf_51 J4
    have u18 : (ps_i s4 1131 51).toInt = (ps_i s 1131 51).toInt := xeq (kp_i K4 51 rfl)
    exact k _ J13 K14 hA hO (show (ps_i s0 1131 51).toInt ≤ (ps_i s13 1131 51).toInt from by omega) (show (ps_i s13 1131 51).toInt ≤ (ps_i s0 1131 51).toInt + 36 from by omega) ((by first | exact ⟨_, hM3, by simp only [List.length_append]; omega, Or.inl (by rw [List.append_assoc]; exact hm3 (by omega) (l ++ la) (ws_app (W1 := [true]) (W2 := [true]) (wf_ws hl2) (wf_ws hla2)))⟩ | exact ⟨_, hM2, by simp only [List.length_append]; omega, Or.inl (by rw [hm4 (by omega)]; exact wf_ws hl2)⟩))

theorem ms_255_207 {x : Nat → Nat → Nat} {t : Int32} {d : Nat} {s0 : ps_S} {σ : mSig} {x1 : Int32} {Q : Option Value → ps_S → Prop} (k : ∀ (s' : ps_S), mJ x t s' → kp [1134, 1149] [34, 50, 51] s0 s' → (As σ (ps_a s' 1134) x1.toInt (ps_i s' 1131 51).toInt) → (OutB (ps_a s0 1134) (ps_a s' 1134) x1.toInt) → ((ps_i s0 1131 51).toInt ≤ (ps_i s' 1131 51).toInt) → ((ps_i s' 1131 51).toInt ≤ (ps_i s0 1131 51).toInt + 36) → (Res σ (ps_a s' 1149) (ps_i s' 1131 34).toInt (ps_i s' 1131 50).toInt) → Q none s') (x2 : Int32) (x3 : Int32) (s : ps_S) (J : mJ x t s) (K : kp [1134, 1149] [34, 50, 51] s0 s) (hS : Sg (ps_a s 1135) (ps_a s 1136) (ps_a s 1138) (ps_a s 1139) (ps_i s 1131 21).toInt σ) (hC : SC σ (ps_a s 1134) (ps_a s 1157) (ps_a s 1152) (ps_a s 1153) (ps_a s 1154) (ps_a s 1155) (ps_i s 1131 21).toInt x1.toInt) (hA : As σ (ps_a s 1134) x1.toInt (ps_i s 1131 51).toInt) (hO : OutB (ps_a s0 1134) (ps_a s 1134) x1.toInt) (i4_k : 0 ≤ x1.toInt) (i5_k : x1.toInt < 40) (i6_k : (ps_i s0 1131 51).toInt ≤ 100) (i7_k : (ps_i s 1131 51).toInt = (ps_i s0 1131 51).toInt) (i8_k : (ps_a s 1152 (Int32.toNatClampNeg x1)).toInt = 10 ∨ (ps_a s 1152 (Int32.toNatClampNeg x1)).toInt = 17 ∨ (ps_a s 1152 (Int32.toNatClampNeg x1)).toInt = 18) (i9_k : x2.toInt = 41 * (ps_a s 1153 (Int32.toNatClampNeg x1)).toInt) (i10_k : x3.toInt = 22468 + 41 * x1.toInt) : ps_At (d + 5) 255 207 [(0, .ref 1131), (1, .int x1), (2, .int x2), (3, .int x3)] [] s Q := by
  have r1_k := mf_51 J
  have r2_k : 0 ≤ (ps_a s 1152 (Int32.toNatClampNeg x1)).toInt ∧ (ps_a s 1152 (Int32.toNatClampNeg x1)).toInt ≤ 18 := ma_1152 (i := x1) J (show 0 ≤ x1.toInt from by omega) (show x1.toInt < 40 from by omega)
  have r3_k : -1 ≤ (ps_a s 1153 (Int32.toNatClampNeg x1)).toInt ∧ (ps_a s 1153 (Int32.toNatClampNeg x1)).toInt ≤ 9999 := ma_1153 (i := x1) J (show 0 ≤ x1.toInt from by omega) (show x1.toInt < 40 from by omega)
  refine pg_255_207 (d := d + 4) ?_
  have q1_k := SC_l1 hC rfl ⟨by omega, by omega, by omega, by omega⟩
  have g0 := SC_g0 hC rfl
  refine ps_nd_i (show pm_in x1 40 = true from xgi (show 0 ≤ x1.toInt from by omega) (show x1.toInt < 40 from by omega)) ?_
  refine ps_nd_i (show pm_in x1 40 = true from xgi (show 0 ≤ x1.toInt from by omega) (show x1.toInt < 40 from by omega)) ?_
  refine And.intro (fun h4_k => ?_) (fun h4_k => ?_)
  · have f5_k : (ps_a s 1152 (Int32.toNatClampNeg x1)).toInt = (17 : Int) := xeq h4_k
    refine ms_249 J hA ((SC_p hC)) (show 0 ≤ x1.toInt from by omega) (show x1.toInt < 40 from by omega) (show 0 ≤ (ps_a s 1153 (Int32.toNatClampNeg x1)).toInt from by omega) (show (ps_a s 1153 (Int32.toNatClampNeg x1)).toInt < x1.toInt from by omega) (show (ps_i s 1131 51).toInt ≤ 800 from by omega) (fun s6 J6 K6 p6_0 p6_1 p6_2 p6_3 => ?_)
    have K7 := kpt K K6 rfl rfl
    have KC := K6
    have hS : Sg (ps_a s6 1135) (ps_a s6 1136) (ps_a s6 1138) (ps_a s6 1139) (ps_i s6 1131 21).toInt σ := by rw [show ps_a s6 1135 = ps_a s 1135 from (K6.2 1135 rfl).1, show ps_a s6 1136 = ps_a s 1136 from (K6.2 1136 rfl).1, show ps_a s6 1138 = ps_a s 1138 from (K6.2 1138 rfl).1, show ps_a s6 1139 = ps_a s 1139 from (K6.2 1139 rfl).1, show ps_i s6 1131 21 = ps_i s 1131 21 from kp_i K6 21 rfl]; exact hS
    have p6_2' : (ps_i s 1131 51).toInt ≤ (ps_i s6 1131 51).toInt := p6_2
    have r8_k := mf_51 J6
    have p6_3' : (ps_i s6 1131 51).toInt ≤ (ps_i s 1131 51).toInt + 12 := p6_3
    have hA : As σ (ps_a s6 1134) x1.toInt (ps_i s6 1131 51).toInt := p6_0
    have ho : _ := p6_1
    have hO := OutB_tr hO ho
    have hC : SC σ (ps_a s6 1134) (ps_a s6 1157) (ps_a s6 1152) (ps_a s6 1153) (ps_a s6 1154) (ps_a s6 1155) (ps_i s6 1131 21).toInt x1.toInt := by rw [show ps_a s6 1157 = ps_a s 1157 from (KC.2 1157 rfl).1, show ps_a s6 1152 = ps_a s 1152 from (KC.2 1152 rfl).1, show ps_a s6 1153 = ps_a s 1153 from (KC.2 1153 rfl).1, show ps_a s6 1154 = ps_a s 1154 from (KC.2 1154 rfl).1, show ps_a s6 1155 = ps_a s 1155 from (KC.2 1155 rfl).1, show ps_i s6 1131 21 = ps_i s 1131 21 from kp_i KC 21 rfl]; exact SC_out hC ho
    have J9 := mwi_34 (v := (0 : Int32)) J6 (show 0 ≤ (0 : Int) from by omega) (show (0 : Int) ≤ 100000 from by omega)
    have K10 := kpi K7 (q := 34) (v := (0 : Int32)) rfl
    have hM : Md (ps_a (ps_ui s6 1131 34 0) 1149) (ps_i (ps_ui s6 1131 34 0) 1131 34).toInt ([] : List Nat) := Md_nil rfl
    refine ps_nd_i (show pm_in x1 40 = true from xgi (show 0 ≤ x1.toInt from by omega) (show x1.toInt < 40 from by omega)) ?_
    have r11_k : 0 ≤ (ps_a s6 1152 (Int32.toNatClampNeg x1)).toInt ∧ (ps_a s6 1152 (Int32.toNatClampNeg x1)).toInt ≤ 18 := ma_1152 (i := x1) J6 (show 0 ≤ x1.toInt from by omega) (show x1.toInt < 40 from by omega)
    have u12 : (ps_a s6 1152 (Int32.toNatClampNeg x1)).toInt = (ps_a s 1152 (Int32.toNatClampNeg x1)).toInt := xeq (kp_a K6 1152 rfl _)
    refine And.intro (fun h13_k => ?_) (fun h13_k => ?_)
    · have f14_k : (ps_a s6 1152 (Int32.toNatClampNeg x1)).toInt ≠ (10 : Int) := xne h13_k
      try have hM1 : Md (ps_a (ps_ui s6 1131 34 0) 1149) (ps_i (ps_ui s6 1131 34 0) 1131 34).toInt ([] ++ [3]) := by first | exact Md_make hM rfl (by decide) | exact Md_make' hM (by decide) (by omega)
      have r15_k : -1 ≤ (ps_a s6 1153 (Int32.toNatClampNeg x1)).toInt ∧ (ps_a s6 1153 (Int32.toNatClampNeg x1)).toInt ≤ 9999 := ma_1153 (i := x1) J6 (show 0 ≤ x1.toInt from by omega) (show x1.toInt < 40 from by omega)
      have u16 : (ps_a s6 1153 (Int32.toNatClampNeg x1)).toInt = (ps_a s 1153 (Int32.toNatClampNeg x1)).toInt := xeq (kp_a K6 1153 rfl _)
      exact ms_255_255 (x1 := x1) (σ := σ) k  x2 x3 _ J9 K10 hS hC hA hO (show 0 ≤ x1.toInt from by omega) (show x1.toInt < 40 from by omega) (show (ps_i s0 1131 51).toInt ≤ 100 from by omega) (show (ps_i s0 1131 51).toInt ≤ (ps_i s6 1131 51).toInt from by omega) (show (ps_i s6 1131 51).toInt ≤ (ps_i s0 1131 51).toInt + 12 from by omega) (show (ps_a s6 1152 (Int32.toNatClampNeg x1)).toInt = 10 ∨ (ps_a s6 1152 (Int32.toNatClampNeg x1)).toInt = 17 ∨ (ps_a s6 1152 (Int32.toNatClampNeg x1)).toInt = 18 from by omega) (show x2.toInt = 41 * (ps_a s6 1153 (Int32.toNatClampNeg x1)).toInt from by omega) (show x3.toInt = 22468 + 41 * x1.toInt from by omega) (⟨[], hM, by decide, fun z_k => absurd z_k (show (ps_a s6 1152 (Int32.toNatClampNeg x1)).toInt ≠ 10 from by omega), fun _ => rfl⟩)
    · have f17_k : (ps_a s6 1152 (Int32.toNatClampNeg x1)).toInt = (10 : Int) := xeq h13_k
      refine pg_225_0 ?_
      refine And.intro (fun h18_k => ?_) (fun h18_k => ?_)
      · exact absurd (show (260 : Int32) ≤ (0 : Int32) from h18_k) (by decide)
      · have f19_k : (0 : Int) < (260 : Int) := xlt h18_k
        refine ps_nd_i (show pm_in (0 : Int32) 260 = true from xgi (show 0 ≤ (0 : Int) from by omega) (show (0 : Int) < 260 from by omega)) ?_
        have J20 := mwa_n 1149 (i := (Int32.toNatClampNeg (0 : Int32))) (v := (3 : Int32)) J9 rfl (by decide)
        have K21 := kpa' K10 (r := 1149) (i := (Int32.toNatClampNeg (0 : Int32))) (v := (3 : Int32)) rfl
        have a22_k : ((0 : Int32) + 1).toInt = (0 : Int) + (1 : Int) := xIa (show -2147483648 ≤ (0 : Int) + (1 : Int) from by omega) (show (0 : Int) + (1 : Int) < 2147483648 from by omega)
        have J23 := mwi_34 (v := ((0 : Int32) + 1)) J20 (show 0 ≤ ((0 : Int32) + 1).toInt from by omega) (show ((0 : Int32) + 1).toInt ≤ 100000 from by omega)
        have K24 := kpi K21 (q := 34) (v := ((0 : Int32) + 1)) rfl
        try have hM1 : Md (ps_a (ps_ui (ps_ua (ps_ui s6 1131 34 0) 1149 (Int32.toNatClampNeg (0 : Int32)) 3) 1131 34 ((0 : Int32) + 1)) 1149) (ps_i (ps_ui (ps_ua (ps_ui s6 1131 34 0) 1149 (Int32.toNatClampNeg (0 : Int32)) 3) 1131 34 ((0 : Int32) + 1)) 1131 34).toInt ([] ++ [3]) := by first | exact Md_make hM rfl (by decide) | exact Md_make' hM (by decide) (by omega)
        have r25_k : -1 ≤ (ps_a s6 1153 (Int32.toNatClampNeg x1)).toInt ∧ (ps_a s6 1153 (Int32.toNatClampNeg x1)).toInt ≤ 9999 := ma_1153 (i := x1) J6 (show 0 ≤ x1.toInt from by omega) (show x1.toInt < 40 from by omega)
        have u26 : (ps_a s6 1153 (Int32.toNatClampNeg x1)).toInt = (ps_a s 1153 (Int32.toNatClampNeg x1)).toInt := xeq (kp_a K6 1153 rfl _)
        exact ms_255_255 (x1 := x1) (σ := σ) k  x2 x3 _ J23 K24 hS hC hA hO (show 0 ≤ x1.toInt from by omega) (show x1.toInt < 40 from by omega) (show (ps_i s0 1131 51).toInt ≤ 100 from by omega) (show (ps_i s0 1131 51).toInt ≤ (ps_i s6 1131 51).toInt from by omega) (show (ps_i s6 1131 51).toInt ≤ (ps_i s0 1131 51).toInt + 12 from by omega) (show (ps_a s6 1152 (Int32.toNatClampNeg x1)).toInt = 10 ∨ (ps_a s6 1152 (Int32.toNatClampNeg x1)).toInt = 17 ∨ (ps_a s6 1152 (Int32.toNatClampNeg x1)).toInt = 18 from by omega) (show x2.toInt = 41 * (ps_a s6 1153 (Int32.toNatClampNeg x1)).toInt from by omega) (show x3.toInt = 22468 + 41 * x1.toInt from by omega) (⟨_, hM1, by decide, fun _ m hm => (show ws σ (3 :: m) [true] from ws_c (W' := []) (kS_f2 (by decide) (by decide)) hm), fun z_k => absurd (show (ps_a s6 1152 (Int32.toNatClampNeg x1)).toInt = 10 from by omega) z_k⟩)
  · have f27_k : (ps_a s 1152 (Int32.toNatClampNeg x1)).toInt ≠ (17 : Int) := xne h4_k
    refine ms_249 J hA ((SC_p hC)) (show 0 ≤ x1.toInt from by omega) (show x1.toInt < 40 from by omega) (show 0 ≤ (ps_a s 1153 (Int32.toNatClampNeg x1)).toInt from by omega) (show (ps_a s 1153 (Int32.toNatClampNeg x1)).toInt < x1.toInt from by omega) (show (ps_i s 1131 51).toInt ≤ 800 from by omega) (fun s28 J28 K28 p28_0 p28_1 p28_2 p28_3 => ?_)
    have K29 := kpt K K28 rfl rfl
    have KC := K28
    have hS : Sg (ps_a s28 1135) (ps_a s28 1136) (ps_a s28 1138) (ps_a s28 1139) (ps_i s28 1131 21).toInt σ := by rw [show ps_a s28 1135 = ps_a s 1135 from (K28.2 1135 rfl).1, show ps_a s28 1136 = ps_a s 1136 from (K28.2 1136 rfl).1, show ps_a s28 1138 = ps_a s 1138 from (K28.2 1138 rfl).1, show ps_a s28 1139 = ps_a s 1139 from (K28.2 1139 rfl).1, show ps_i s28 1131 21 = ps_i s 1131 21 from kp_i K28 21 rfl]; exact hS
    have p28_2' : (ps_i s 1131 51).toInt ≤ (ps_i s28 1131 51).toInt := p28_2
    have r30_k := mf_51 J28
    have p28_3' : (ps_i s28 1131 51).toInt ≤ (ps_i s 1131 51).toInt + 12 := p28_3
    have hA : As σ (ps_a s28 1134) x1.toInt (ps_i s28 1131 51).toInt := p28_0
    have ho : _ := p28_1
    have hO := OutB_tr hO ho
    have hC : SC σ (ps_a s28 1134) (ps_a s28 1157) (ps_a s28 1152) (ps_a s28 1153) (ps_a s28 1154) (ps_a s28 1155) (ps_i s28 1131 21).toInt x1.toInt := by rw [show ps_a s28 1157 = ps_a s 1157 from (KC.2 1157 rfl).1, show ps_a s28 1152 = ps_a s 1152 from (KC.2 1152 rfl).1, show ps_a s28 1153 = ps_a s 1153 from (KC.2 1153 rfl).1, show ps_a s28 1154 = ps_a s 1154 from (KC.2 1154 rfl).1, show ps_a s28 1155 = ps_a s 1155 from (KC.2 1155 rfl).1, show ps_i s28 1131 21 = ps_i s 1131 21 from kp_i KC 21 rfl]; exact SC_out hC ho
    have J31 := mwi_34 (v := (0 : Int32)) J28 (show 0 ≤ (0 : Int) from by omega) (show (0 : Int) ≤ 100000 from by omega)
    have K32 := kpi K29 (q := 34) (v := (0 : Int32)) rfl
    have hM : Md (ps_a (ps_ui s28 1131 34 0) 1149) (ps_i (ps_ui s28 1131 34 0) 1131 34).toInt ([] : List Nat) := Md_nil rfl
    refine ps_nd_i (show pm_in x1 40 = true from xgi (show 0 ≤ x1.toInt from by omega) (show x1.toInt < 40 from by omega)) ?_
    have r33_k : 0 ≤ (ps_a s28 1152 (Int32.toNatClampNeg x1)).toInt ∧ (ps_a s28 1152 (Int32.toNatClampNeg x1)).toInt ≤ 18 := ma_1152 (i := x1) J28 (show 0 ≤ x1.toInt from by omega) (show x1.toInt < 40 from by omega)
    have u34 : (ps_a s28 1152 (Int32.toNatClampNeg x1)).toInt = (ps_a s 1152 (Int32.toNatClampNeg x1)).toInt := xeq (kp_a K28 1152 rfl _)
    refine And.intro (fun h35_k => ?_) (fun h35_k => ?_)
    · have f36_k : (ps_a s28 1152 (Int32.toNatClampNeg x1)).toInt ≠ (10 : Int) := xne h35_k
      try have hM1 : Md (ps_a (ps_ui s28 1131 34 0) 1149) (ps_i (ps_ui s28 1131 34 0) 1131 34).toInt ([] ++ [3]) := by first | exact Md_make hM rfl (by decide) | exact Md_make' hM (by decide) (by omega)
      have r37_k : -1 ≤ (ps_a s28 1153 (Int32.toNatClampNeg x1)).toInt ∧ (ps_a s28 1153 (Int32.toNatClampNeg x1)).toInt ≤ 9999 := ma_1153 (i := x1) J28 (show 0 ≤ x1.toInt from by omega) (show x1.toInt < 40 from by omega)
      have u38 : (ps_a s28 1153 (Int32.toNatClampNeg x1)).toInt = (ps_a s 1153 (Int32.toNatClampNeg x1)).toInt := xeq (kp_a K28 1153 rfl _)
      exact ms_255_255 (x1 := x1) (σ := σ) k  x2 x3 _ J31 K32 hS hC hA hO (show 0 ≤ x1.toInt from by omega) (show x1.toInt < 40 from by omega) (show (ps_i s0 1131 51).toInt ≤ 100 from by omega) (show (ps_i s0 1131 51).toInt ≤ (ps_i s28 1131 51).toInt from by omega) (show (ps_i s28 1131 51).toInt ≤ (ps_i s0 1131 51).toInt + 12 from by omega) (show (ps_a s28 1152 (Int32.toNatClampNeg x1)).toInt = 10 ∨ (ps_a s28 1152 (Int32.toNatClampNeg x1)).toInt = 17 ∨ (ps_a s28 1152 (Int32.toNatClampNeg x1)).toInt = 18 from by omega) (show x2.toInt = 41 * (ps_a s28 1153 (Int32.toNatClampNeg x1)).toInt from by omega) (show x3.toInt = 22468 + 41 * x1.toInt from by omega) (⟨[], hM, by decide, fun z_k => absurd z_k (show (ps_a s28 1152 (Int32.toNatClampNeg x1)).toInt ≠ 10 from by omega), fun _ => rfl⟩)
    · have f39_k : (ps_a s28 1152 (Int32.toNatClampNeg x1)).toInt = (10 : Int) := xeq h35_k
      refine pg_225_0 ?_
      refine And.intro (fun h40_k => ?_) (fun h40_k => ?_)
      · exact absurd (show (260 : Int32) ≤ (0 : Int32) from h40_k) (by decide)
      · have f41_k : (0 : Int) < (260 : Int) := xlt h40_k
        refine ps_nd_i (show pm_in (0 : Int32) 260 = true from xgi (show 0 ≤ (0 : Int) from by omega) (show (0 : Int) < 260 from by omega)) ?_
        have J42 := mwa_n 1149 (i := (Int32.toNatClampNeg (0 : Int32))) (v := (3 : Int32)) J31 rfl (by decide)
        have K43 := kpa' K32 (r := 1149) (i := (Int32.toNatClampNeg (0 : Int32))) (v := (3 : Int32)) rfl
        have a44_k : ((0 : Int32) + 1).toInt = (0 : Int) + (1 : Int) := xIa (show -2147483648 ≤ (0 : Int) + (1 : Int) from by omega) (show (0 : Int) + (1 : Int) < 2147483648 from by omega)
        have J45 := mwi_34 (v := ((0 : Int32) + 1)) J42 (show 0 ≤ ((0 : Int32) + 1).toInt from by omega) (show ((0 : Int32) + 1).toInt ≤ 100000 from by omega)
        have K46 := kpi K43 (q := 34) (v := ((0 : Int32) + 1)) rfl
        try have hM1 : Md (ps_a (ps_ui (ps_ua (ps_ui s28 1131 34 0) 1149 (Int32.toNatClampNeg (0 : Int32)) 3) 1131 34 ((0 : Int32) + 1)) 1149) (ps_i (ps_ui (ps_ua (ps_ui s28 1131 34 0) 1149 (Int32.toNatClampNeg (0 : Int32)) 3) 1131 34 ((0 : Int32) + 1)) 1131 34).toInt ([] ++ [3]) := by first | exact Md_make hM rfl (by decide) | exact Md_make' hM (by decide) (by omega)
        have r47_k : -1 ≤ (ps_a s28 1153 (Int32.toNatClampNeg x1)).toInt ∧ (ps_a s28 1153 (Int32.toNatClampNeg x1)).toInt ≤ 9999 := ma_1153 (i := x1) J28 (show 0 ≤ x1.toInt from by omega) (show x1.toInt < 40 from by omega)
        have u48 : (ps_a s28 1153 (Int32.toNatClampNeg x1)).toInt = (ps_a s 1153 (Int32.toNatClampNeg x1)).toInt := xeq (kp_a K28 1153 rfl _)
        exact ms_255_255 (x1 := x1) (σ := σ) k  x2 x3 _ J45 K46 hS hC hA hO (show 0 ≤ x1.toInt from by omega) (show x1.toInt < 40 from by omega) (show (ps_i s0 1131 51).toInt ≤ 100 from by omega) (show (ps_i s0 1131 51).toInt ≤ (ps_i s28 1131 51).toInt from by omega) (show (ps_i s28 1131 51).toInt ≤ (ps_i s0 1131 51).toInt + 12 from by omega) (show (ps_a s28 1152 (Int32.toNatClampNeg x1)).toInt = 10 ∨ (ps_a s28 1152 (Int32.toNatClampNeg x1)).toInt = 17 ∨ (ps_a s28 1152 (Int32.toNatClampNeg x1)).toInt = 18 from by omega) (show x2.toInt = 41 * (ps_a s28 1153 (Int32.toNatClampNeg x1)).toInt from by omega) (show x3.toInt = 22468 + 41 * x1.toInt from by omega) (⟨_, hM1, by decide, fun _ m hm => (show ws σ (3 :: m) [true] from ws_c (W' := []) (kS_f2 (by decide) (by decide)) hm), fun z_k => absurd (show (ps_a s28 1152 (Int32.toNatClampNeg x1)).toInt = 10 from by omega) z_k⟩)

theorem ms_255_181 {x : Nat → Nat → Nat} {t : Int32} {d : Nat} {s0 : ps_S} {σ : mSig} {x1 : Int32} {Q : Option Value → ps_S → Prop} (k : ∀ (s' : ps_S), mJ x t s' → kp [1134, 1149] [34, 50, 51] s0 s' → (As σ (ps_a s' 1134) x1.toInt (ps_i s' 1131 51).toInt) → (OutB (ps_a s0 1134) (ps_a s' 1134) x1.toInt) → ((ps_i s0 1131 51).toInt ≤ (ps_i s' 1131 51).toInt) → ((ps_i s' 1131 51).toInt ≤ (ps_i s0 1131 51).toInt + 36) → (Res σ (ps_a s' 1149) (ps_i s' 1131 34).toInt (ps_i s' 1131 50).toInt) → Q none s') (x2 : Int32) (x3 : Int32) (s : ps_S) (J : mJ x t s) (K : kp [1134, 1149] [34, 50, 51] s0 s) (hS : Sg (ps_a s 1135) (ps_a s 1136) (ps_a s 1138) (ps_a s 1139) (ps_i s 1131 21).toInt σ) (hC : SC σ (ps_a s 1134) (ps_a s 1157) (ps_a s 1152) (ps_a s 1153) (ps_a s 1154) (ps_a s 1155) (ps_i s 1131 21).toInt x1.toInt) (hA : As σ (ps_a s 1134) x1.toInt (ps_i s 1131 51).toInt) (hO : OutB (ps_a s0 1134) (ps_a s 1134) x1.toInt) (i4_k : 0 ≤ x1.toInt) (i5_k : x1.toInt < 40) (i6_k : (ps_i s0 1131 51).toInt ≤ 100) (i7_k : (ps_i s 1131 51).toInt = (ps_i s0 1131 51).toInt) (i8_k : (ps_a s 1152 (Int32.toNatClampNeg x1)).toInt = 10 ∨ (ps_a s 1152 (Int32.toNatClampNeg x1)).toInt = 17 ∨ (ps_a s 1152 (Int32.toNatClampNeg x1)).toInt = 18) (i9_k : x2.toInt = 41 * (ps_a s 1153 (Int32.toNatClampNeg x1)).toInt) (i10_k : x3.toInt = 22468 + 41 * x1.toInt) (i11_k : ∃ ml, Md (ps_a s 1149) (ps_i s 1131 34).toInt ml ∧ ml.length ≤ 50) : ps_At (d + 5) 255 181 [(0, .ref 1131), (1, .int x1), (2, .int x2), (3, .int x3)] [] s Q := by
  have r1_k := mf_51 J
  have r2_k : 0 ≤ (ps_a s 1152 (Int32.toNatClampNeg x1)).toInt ∧ (ps_a s 1152 (Int32.toNatClampNeg x1)).toInt ≤ 18 := ma_1152 (i := x1) J (show 0 ≤ x1.toInt from by omega) (show x1.toInt < 40 from by omega)
  have r3_k : -1 ≤ (ps_a s 1153 (Int32.toNatClampNeg x1)).toInt ∧ (ps_a s 1153 (Int32.toNatClampNeg x1)).toInt ≤ 9999 := ma_1153 (i := x1) J (show 0 ≤ x1.toInt from by omega) (show x1.toInt < 40 from by omega)
  refine pg_255_181 (d := d + 4) ?_
  obtain ⟨ml, hm1, hm2⟩ := i11_k
  have h34_k := hm1.1
  refine ps_nd_i (show pm_in x1 40 = true from xgi (show 0 ≤ x1.toInt from by omega) (show x1.toInt < 40 from by omega)) ?_
  refine And.intro (fun h4_k => ?_) (fun h4_k => ?_)
  · have f5_k : (ps_a s 1152 (Int32.toNatClampNeg x1)).toInt ≠ (18 : Int) := xne h4_k
    exact ms_255_207 (x1 := x1) (σ := σ) k  x2 x3 _ J K hS hC hA hO (show 0 ≤ x1.toInt from by omega) (show x1.toInt < 40 from by omega) (show (ps_i s0 1131 51).toInt ≤ 100 from by omega) (show (ps_i s 1131 51).toInt = (ps_i s0 1131 51).toInt from by omega) (show (ps_a s 1152 (Int32.toNatClampNeg x1)).toInt = 10 ∨ (ps_a s 1152 (Int32.toNatClampNeg x1)).toInt = 17 ∨ (ps_a s 1152 (Int32.toNatClampNeg x1)).toInt = 18 from by omega) (show x2.toInt = 41 * (ps_a s 1153 (Int32.toNatClampNeg x1)).toInt from by omega) (show x3.toInt = 22468 + 41 * x1.toInt from by omega)
  · have f6_k : (ps_a s 1152 (Int32.toNatClampNeg x1)).toInt = (18 : Int) := xeq h4_k
    refine pg_225_0 ?_
    have r7_k := mf_34 J
    refine And.intro (fun h8_k => ?_) (fun h8_k => ?_)
    · have f9_k : (260 : Int) ≤ (ps_i s 1131 34).toInt := xle h8_k
      have a10_k : ((ps_i s 1131 34) + 1).toInt = (ps_i s 1131 34).toInt + (1 : Int) := xIa (show -2147483648 ≤ (ps_i s 1131 34).toInt + (1 : Int) from by omega) (show (ps_i s 1131 34).toInt + (1 : Int) < 2147483648 from by omega)
      have J11 := mwi_34 (v := ((ps_i s 1131 34) + 1)) J (show 0 ≤ ((ps_i s 1131 34) + 1).toInt from by omega) (show ((ps_i s 1131 34) + 1).toInt ≤ 100000 from by omega)
      have K12 := kpi K (q := 34) (v := ((ps_i s 1131 34) + 1)) rfl
      have hM1 : Md (ps_a (ps_ui s 1131 34 ((ps_i s 1131 34) + 1)) 1149) (ps_i (ps_ui s 1131 34 ((ps_i s 1131 34) + 1)) 1131 34).toInt (ml ++ [3]) := by first | exact Md_make hm1 rfl (by omega) | exact Md_make' hm1 (by omega) (by omega)
      obtain ⟨l, hl1, hl2⟩ := SC_f (j := x3) hC rfl (by omega) (by omega)
      have hlen := hl1.2.2.2.1
      refine ms_227 J11 (hl1) (hM1) ((by rw [List.length_append]; show ml.length + 1 + l.length ≤ _; omega)) (fun s13 J13 K13 p13_0 => ?_)
      have K14 := kpt K12 K13 rfl rfl
      have KC := K13
      have hS : Sg (ps_a s13 1135) (ps_a s13 1136) (ps_a s13 1138) (ps_a s13 1139) (ps_i s13 1131 21).toInt σ := by rw [show ps_a s13 1135 = ps_a (ps_ui s 1131 34 ((ps_i s 1131 34) + 1)) 1135 from (K13.2 1135 rfl).1, show ps_a s13 1136 = ps_a (ps_ui s 1131 34 ((ps_i s 1131 34) + 1)) 1136 from (K13.2 1136 rfl).1, show ps_a s13 1138 = ps_a (ps_ui s 1131 34 ((ps_i s 1131 34) + 1)) 1138 from (K13.2 1138 rfl).1, show ps_a s13 1139 = ps_a (ps_ui s 1131 34 ((ps_i s 1131 34) + 1)) 1139 from (K13.2 1139 rfl).1, show ps_i s13 1131 21 = ps_i (ps_ui s 1131 34 ((ps_i s 1131 34) + 1)) 1131 21 from kp_i K13 21 rfl]; exact hS
      have hC : SC σ (ps_a s13 1134) (ps_a s13 1157) (ps_a s13 1152) (ps_a s13 1153) (ps_a s13 1154) (ps_a s13 1155) (ps_i s13 1131 21).toInt x1.toInt := by rw [show ps_a s13 1134 = ps_a (ps_ui s 1131 34 ((ps_i s 1131 34) + 1)) 1134 from (K13.2 1134 rfl).1, show ps_a s13 1157 = ps_a (ps_ui s 1131 34 ((ps_i s 1131 34) + 1)) 1157 from (K13.2 1157 rfl).1, show ps_a s13 1152 = ps_a (ps_ui s 1131 34 ((ps_i s 1131 34) + 1)) 1152 from (K13.2 1152 rfl).1, show ps_a s13 1153 = ps_a (ps_ui s 1131 34 ((ps_i s 1131 34) + 1)) 1153 from (K13.2 1153 rfl).1, show ps_a s13 1154 = ps_a (ps_ui s 1131 34 ((ps_i s 1131 34) + 1)) 1154 from (K13.2 1154 rfl).1, show ps_a s13 1155 = ps_a (ps_ui s 1131 34 ((ps_i s 1131 34) + 1)) 1155 from (K13.2 1155 rfl).1, show ps_i s13 1131 21 = ps_i (ps_ui s 1131 34 ((ps_i s 1131 34) + 1)) 1131 21 from kp_i K13 21 rfl]; exact hC
      have hA : As σ (ps_a s13 1134) x1.toInt (ps_i s13 1131 51).toInt := by rw [show ps_a s13 1134 = ps_a (ps_ui s 1131 34 ((ps_i s 1131 34) + 1)) 1134 from (K13.2 1134 rfl).1, show ps_i s13 1131 51 = ps_i (ps_ui s 1131 34 ((ps_i s 1131 34) + 1)) 1131 51 from kp_i K13 51 rfl]; exact hA
      have hO : OutB (ps_a s0 1134) (ps_a s13 1134) x1.toInt := by rw [show ps_a s13 1134 = ps_a (ps_ui s 1131 34 ((ps_i s 1131 34) + 1)) 1134 from (K13.2 1134 rfl).1]; exact hO
      have hM2 : Md (ps_a s13 1149) (ps_i s13 1131 34).toInt ((ml ++ [3]) ++ l) := p13_0
      have h34_k := hM2.1
      rw [llen, l1c] at h34_k
      refine pg_225_0 ?_
      have r15_k := mf_34 J13
      refine And.intro (fun h16_k => ?_) (fun h16_k => ?_)
      · have f17_k : (260 : Int) ≤ (ps_i s13 1131 34).toInt := xle h16_k
        have a18_k : ((ps_i s13 1131 34) + 1).toInt = (ps_i s13 1131 34).toInt + (1 : Int) := xIa (show -2147483648 ≤ (ps_i s13 1131 34).toInt + (1 : Int) from by omega) (show (ps_i s13 1131 34).toInt + (1 : Int) < 2147483648 from by omega)
        have J19 := mwi_34 (v := ((ps_i s13 1131 34) + 1)) J13 (show 0 ≤ ((ps_i s13 1131 34) + 1).toInt from by omega) (show ((ps_i s13 1131 34) + 1).toInt ≤ 100000 from by omega)
        have K20 := kpi K14 (q := 34) (v := ((ps_i s13 1131 34) + 1)) rfl
        have r21_k := mf_51 J13
        have u22 : (ps_i s13 1131 51).toInt = (ps_i s 1131 51).toInt := xeq (kp_i K13 51 rfl)
        have r23_k : 0 ≤ (ps_a s13 1152 (Int32.toNatClampNeg x1)).toInt ∧ (ps_a s13 1152 (Int32.toNatClampNeg x1)).toInt ≤ 18 := ma_1152 (i := x1) J13 (show 0 ≤ x1.toInt from by omega) (show x1.toInt < 40 from by omega)
        have u24 : (ps_a s13 1152 (Int32.toNatClampNeg x1)).toInt = (ps_a s 1152 (Int32.toNatClampNeg x1)).toInt := xeq (kp_a K13 1152 rfl _)
        have r25_k : -1 ≤ (ps_a s13 1153 (Int32.toNatClampNeg x1)).toInt ∧ (ps_a s13 1153 (Int32.toNatClampNeg x1)).toInt ≤ 9999 := ma_1153 (i := x1) J13 (show 0 ≤ x1.toInt from by omega) (show x1.toInt < 40 from by omega)
        have u26 : (ps_a s13 1153 (Int32.toNatClampNeg x1)).toInt = (ps_a s 1153 (Int32.toNatClampNeg x1)).toInt := xeq (kp_a K13 1153 rfl _)
        exact ms_255_207 (x1 := x1) (σ := σ) k  x2 x3 _ J19 K20 hS hC hA hO (show 0 ≤ x1.toInt from by omega) (show x1.toInt < 40 from by omega) (show (ps_i s0 1131 51).toInt ≤ 100 from by omega) (show (ps_i s13 1131 51).toInt = (ps_i s0 1131 51).toInt from by omega) (show (ps_a s13 1152 (Int32.toNatClampNeg x1)).toInt = 10 ∨ (ps_a s13 1152 (Int32.toNatClampNeg x1)).toInt = 17 ∨ (ps_a s13 1152 (Int32.toNatClampNeg x1)).toInt = 18 from by omega) (show x2.toInt = 41 * (ps_a s13 1153 (Int32.toNatClampNeg x1)).toInt from by omega) (show x3.toInt = 22468 + 41 * x1.toInt from by omega)
      · have f27_k : (ps_i s13 1131 34).toInt < (260 : Int) := xlt h16_k
        refine ps_nd_i (show pm_in (ps_i s13 1131 34) 260 = true from xgi (show 0 ≤ (ps_i s13 1131 34).toInt from by omega) (show (ps_i s13 1131 34).toInt < 260 from by omega)) ?_
        have J28 := mwa_n 1149 (i := (Int32.toNatClampNeg (ps_i s13 1131 34))) (v := (0 : Int32)) J13 rfl (by decide)
        have K29 := kpa' K14 (r := 1149) (i := (Int32.toNatClampNeg (ps_i s13 1131 34))) (v := (0 : Int32)) rfl
        have a30_k : ((ps_i s13 1131 34) + 1).toInt = (ps_i s13 1131 34).toInt + (1 : Int) := xIa (show -2147483648 ≤ (ps_i s13 1131 34).toInt + (1 : Int) from by omega) (show (ps_i s13 1131 34).toInt + (1 : Int) < 2147483648 from by omega)
        have J31 := mwi_34 (v := ((ps_i s13 1131 34) + 1)) J28 (show 0 ≤ ((ps_i s13 1131 34) + 1).toInt from by omega) (show ((ps_i s13 1131 34) + 1).toInt ≤ 100000 from by omega)
        have K32 := kpi K29 (q := 34) (v := ((ps_i s13 1131 34) + 1)) rfl
        have r33_k := mf_51 J13
        have u34 : (ps_i s13 1131 51).toInt = (ps_i s 1131 51).toInt := xeq (kp_i K13 51 rfl)
        have r35_k : 0 ≤ (ps_a s13 1152 (Int32.toNatClampNeg x1)).toInt ∧ (ps_a s13 1152 (Int32.toNatClampNeg x1)).toInt ≤ 18 := ma_1152 (i := x1) J13 (show 0 ≤ x1.toInt from by omega) (show x1.toInt < 40 from by omega)
        have u36 : (ps_a s13 1152 (Int32.toNatClampNeg x1)).toInt = (ps_a s 1152 (Int32.toNatClampNeg x1)).toInt := xeq (kp_a K13 1152 rfl _)
        have r37_k : -1 ≤ (ps_a s13 1153 (Int32.toNatClampNeg x1)).toInt ∧ (ps_a s13 1153 (Int32.toNatClampNeg x1)).toInt ≤ 9999 := ma_1153 (i := x1) J13 (show 0 ≤ x1.toInt from by omega) (show x1.toInt < 40 from by omega)
        have u38 : (ps_a s13 1153 (Int32.toNatClampNeg x1)).toInt = (ps_a s 1153 (Int32.toNatClampNeg x1)).toInt := xeq (kp_a K13 1153 rfl _)
        exact ms_255_207 (x1 := x1) (σ := σ) k  x2 x3 _ J31 K32 hS hC hA hO (show 0 ≤ x1.toInt from by omega) (show x1.toInt < 40 from by omega) (show (ps_i s0 1131 51).toInt ≤ 100 from by omega) (show (ps_i s13 1131 51).toInt = (ps_i s0 1131 51).toInt from by omega) (show (ps_a s13 1152 (Int32.toNatClampNeg x1)).toInt = 10 ∨ (ps_a s13 1152 (Int32.toNatClampNeg x1)).toInt = 17 ∨ (ps_a s13 1152 (Int32.toNatClampNeg x1)).toInt = 18 from by omega) (show x2.toInt = 41 * (ps_a s13 1153 (Int32.toNatClampNeg x1)).toInt from by omega) (show x3.toInt = 22468 + 41 * x1.toInt from by omega)
    · have f39_k : (ps_i s 1131 34).toInt < (260 : Int) := xlt h8_k
      refine ps_nd_i (show pm_in (ps_i s 1131 34) 260 = true from xgi (show 0 ≤ (ps_i s 1131 34).toInt from by omega) (show (ps_i s 1131 34).toInt < 260 from by omega)) ?_
      have J40 := mwa_n 1149 (i := (Int32.toNatClampNeg (ps_i s 1131 34))) (v := (3 : Int32)) J rfl (by decide)
      have K41 := kpa' K (r := 1149) (i := (Int32.toNatClampNeg (ps_i s 1131 34))) (v := (3 : Int32)) rfl
      have a42_k : ((ps_i s 1131 34) + 1).toInt = (ps_i s 1131 34).toInt + (1 : Int) := xIa (show -2147483648 ≤ (ps_i s 1131 34).toInt + (1 : Int) from by omega) (show (ps_i s 1131 34).toInt + (1 : Int) < 2147483648 from by omega)
      have J43 := mwi_34 (v := ((ps_i s 1131 34) + 1)) J40 (show 0 ≤ ((ps_i s 1131 34) + 1).toInt from by omega) (show ((ps_i s 1131 34) + 1).toInt ≤ 100000 from by omega)
      have K44 := kpi K41 (q := 34) (v := ((ps_i s 1131 34) + 1)) rfl
      have hM1 : Md (ps_a (ps_ui (ps_ua s 1149 (Int32.toNatClampNeg (ps_i s 1131 34)) 3) 1131 34 ((ps_i s 1131 34) + 1)) 1149) (ps_i (ps_ui (ps_ua s 1149 (Int32.toNatClampNeg (ps_i s 1131 34)) 3) 1131 34 ((ps_i s 1131 34) + 1)) 1131 34).toInt (ml ++ [3]) := by first | exact Md_make hm1 rfl (by omega) | exact Md_make' hm1 (by omega) (by omega)
      obtain ⟨l, hl1, hl2⟩ := SC_f (j := x3) hC rfl (by omega) (by omega)
      have hlen := hl1.2.2.2.1
      refine ms_227 J43 (hl1) (hM1) ((by rw [List.length_append]; show ml.length + 1 + l.length ≤ _; omega)) (fun s45 J45 K45 p45_0 => ?_)
      have K46 := kpt K44 K45 rfl rfl
      have KC := K45
      have hS : Sg (ps_a s45 1135) (ps_a s45 1136) (ps_a s45 1138) (ps_a s45 1139) (ps_i s45 1131 21).toInt σ := by rw [show ps_a s45 1135 = ps_a (ps_ui (ps_ua s 1149 (Int32.toNatClampNeg (ps_i s 1131 34)) 3) 1131 34 ((ps_i s 1131 34) + 1)) 1135 from (K45.2 1135 rfl).1, show ps_a s45 1136 = ps_a (ps_ui (ps_ua s 1149 (Int32.toNatClampNeg (ps_i s 1131 34)) 3) 1131 34 ((ps_i s 1131 34) + 1)) 1136 from (K45.2 1136 rfl).1, show ps_a s45 1138 = ps_a (ps_ui (ps_ua s 1149 (Int32.toNatClampNeg (ps_i s 1131 34)) 3) 1131 34 ((ps_i s 1131 34) + 1)) 1138 from (K45.2 1138 rfl).1, show ps_a s45 1139 = ps_a (ps_ui (ps_ua s 1149 (Int32.toNatClampNeg (ps_i s 1131 34)) 3) 1131 34 ((ps_i s 1131 34) + 1)) 1139 from (K45.2 1139 rfl).1, show ps_i s45 1131 21 = ps_i (ps_ui (ps_ua s 1149 (Int32.toNatClampNeg (ps_i s 1131 34)) 3) 1131 34 ((ps_i s 1131 34) + 1)) 1131 21 from kp_i K45 21 rfl]; exact hS
      have hC : SC σ (ps_a s45 1134) (ps_a s45 1157) (ps_a s45 1152) (ps_a s45 1153) (ps_a s45 1154) (ps_a s45 1155) (ps_i s45 1131 21).toInt x1.toInt := by rw [show ps_a s45 1134 = ps_a (ps_ui (ps_ua s 1149 (Int32.toNatClampNeg (ps_i s 1131 34)) 3) 1131 34 ((ps_i s 1131 34) + 1)) 1134 from (K45.2 1134 rfl).1, show ps_a s45 1157 = ps_a (ps_ui (ps_ua s 1149 (Int32.toNatClampNeg (ps_i s 1131 34)) 3) 1131 34 ((ps_i s 1131 34) + 1)) 1157 from (K45.2 1157 rfl).1, show ps_a s45 1152 = ps_a (ps_ui (ps_ua s 1149 (Int32.toNatClampNeg (ps_i s 1131 34)) 3) 1131 34 ((ps_i s 1131 34) + 1)) 1152 from (K45.2 1152 rfl).1, show ps_a s45 1153 = ps_a (ps_ui (ps_ua s 1149 (Int32.toNatClampNeg (ps_i s 1131 34)) 3) 1131 34 ((ps_i s 1131 34) + 1)) 1153 from (K45.2 1153 rfl).1, show ps_a s45 1154 = ps_a (ps_ui (ps_ua s 1149 (Int32.toNatClampNeg (ps_i s 1131 34)) 3) 1131 34 ((ps_i s 1131 34) + 1)) 1154 from (K45.2 1154 rfl).1, show ps_a s45 1155 = ps_a (ps_ui (ps_ua s 1149 (Int32.toNatClampNeg (ps_i s 1131 34)) 3) 1131 34 ((ps_i s 1131 34) + 1)) 1155 from (K45.2 1155 rfl).1, show ps_i s45 1131 21 = ps_i (ps_ui (ps_ua s 1149 (Int32.toNatClampNeg (ps_i s 1131 34)) 3) 1131 34 ((ps_i s 1131 34) + 1)) 1131 21 from kp_i K45 21 rfl]; exact hC
      have hA : As σ (ps_a s45 1134) x1.toInt (ps_i s45 1131 51).toInt := by rw [show ps_a s45 1134 = ps_a (ps_ui (ps_ua s 1149 (Int32.toNatClampNeg (ps_i s 1131 34)) 3) 1131 34 ((ps_i s 1131 34) + 1)) 1134 from (K45.2 1134 rfl).1, show ps_i s45 1131 51 = ps_i (ps_ui (ps_ua s 1149 (Int32.toNatClampNeg (ps_i s 1131 34)) 3) 1131 34 ((ps_i s 1131 34) + 1)) 1131 51 from kp_i K45 51 rfl]; exact hA
      have hO : OutB (ps_a s0 1134) (ps_a s45 1134) x1.toInt := by rw [show ps_a s45 1134 = ps_a (ps_ui (ps_ua s 1149 (Int32.toNatClampNeg (ps_i s 1131 34)) 3) 1131 34 ((ps_i s 1131 34) + 1)) 1134 from (K45.2 1134 rfl).1]; exact hO
      have hM2 : Md (ps_a s45 1149) (ps_i s45 1131 34).toInt ((ml ++ [3]) ++ l) := p45_0
      have h34_k := hM2.1
      rw [llen, l1c] at h34_k
      refine pg_225_0 ?_
      have r47_k := mf_34 J45
      refine And.intro (fun h48_k => ?_) (fun h48_k => ?_)
      · have f49_k : (260 : Int) ≤ (ps_i s45 1131 34).toInt := xle h48_k
        have a50_k : ((ps_i s45 1131 34) + 1).toInt = (ps_i s45 1131 34).toInt + (1 : Int) := xIa (show -2147483648 ≤ (ps_i s45 1131 34).toInt + (1 : Int) from by omega) (show (ps_i s45 1131 34).toInt + (1 : Int) < 2147483648 from by omega)
        have J51 := mwi_34 (v := ((ps_i s45 1131 34) + 1)) J45 (show 0 ≤ ((ps_i s45 1131 34) + 1).toInt from by omega) (show ((ps_i s45 1131 34) + 1).toInt ≤ 100000 from by omega)
        have K52 := kpi K46 (q := 34) (v := ((ps_i s45 1131 34) + 1)) rfl
        have r53_k := mf_51 J45
        have u54 : (ps_i s45 1131 51).toInt = (ps_i s 1131 51).toInt := xeq (kp_i K45 51 rfl)
        have r55_k : 0 ≤ (ps_a s45 1152 (Int32.toNatClampNeg x1)).toInt ∧ (ps_a s45 1152 (Int32.toNatClampNeg x1)).toInt ≤ 18 := ma_1152 (i := x1) J45 (show 0 ≤ x1.toInt from by omega) (show x1.toInt < 40 from by omega)
        have u56 : (ps_a s45 1152 (Int32.toNatClampNeg x1)).toInt = (ps_a s 1152 (Int32.toNatClampNeg x1)).toInt := xeq (kp_a K45 1152 rfl _)
        have r57_k : -1 ≤ (ps_a s45 1153 (Int32.toNatClampNeg x1)).toInt ∧ (ps_a s45 1153 (Int32.toNatClampNeg x1)).toInt ≤ 9999 := ma_1153 (i := x1) J45 (show 0 ≤ x1.toInt from by omega) (show x1.toInt < 40 from by omega)
        have u58 : (ps_a s45 1153 (Int32.toNatClampNeg x1)).toInt = (ps_a s 1153 (Int32.toNatClampNeg x1)).toInt := xeq (kp_a K45 1153 rfl _)
        exact ms_255_207 (x1 := x1) (σ := σ) k  x2 x3 _ J51 K52 hS hC hA hO (show 0 ≤ x1.toInt from by omega) (show x1.toInt < 40 from by omega) (show (ps_i s0 1131 51).toInt ≤ 100 from by omega) (show (ps_i s45 1131 51).toInt = (ps_i s0 1131 51).toInt from by omega) (show (ps_a s45 1152 (Int32.toNatClampNeg x1)).toInt = 10 ∨ (ps_a s45 1152 (Int32.toNatClampNeg x1)).toInt = 17 ∨ (ps_a s45 1152 (Int32.toNatClampNeg x1)).toInt = 18 from by omega) (show x2.toInt = 41 * (ps_a s45 1153 (Int32.toNatClampNeg x1)).toInt from by omega) (show x3.toInt = 22468 + 41 * x1.toInt from by omega)
      · have f59_k : (ps_i s45 1131 34).toInt < (260 : Int) := xlt h48_k
        refine ps_nd_i (show pm_in (ps_i s45 1131 34) 260 = true from xgi (show 0 ≤ (ps_i s45 1131 34).toInt from by omega) (show (ps_i s45 1131 34).toInt < 260 from by omega)) ?_
        have J60 := mwa_n 1149 (i := (Int32.toNatClampNeg (ps_i s45 1131 34))) (v := (0 : Int32)) J45 rfl (by decide)
        have K61 := kpa' K46 (r := 1149) (i := (Int32.toNatClampNeg (ps_i s45 1131 34))) (v := (0 : Int32)) rfl
        have a62_k : ((ps_i s45 1131 34) + 1).toInt = (ps_i s45 1131 34).toInt + (1 : Int) := xIa (show -2147483648 ≤ (ps_i s45 1131 34).toInt + (1 : Int) from by omega) (show (ps_i s45 1131 34).toInt + (1 : Int) < 2147483648 from by omega)
        have J63 := mwi_34 (v := ((ps_i s45 1131 34) + 1)) J60 (show 0 ≤ ((ps_i s45 1131 34) + 1).toInt from by omega) (show ((ps_i s45 1131 34) + 1).toInt ≤ 100000 from by omega)
        have K64 := kpi K61 (q := 34) (v := ((ps_i s45 1131 34) + 1)) rfl
        have r65_k := mf_51 J45
        have u66 : (ps_i s45 1131 51).toInt = (ps_i s 1131 51).toInt := xeq (kp_i K45 51 rfl)
        have r67_k : 0 ≤ (ps_a s45 1152 (Int32.toNatClampNeg x1)).toInt ∧ (ps_a s45 1152 (Int32.toNatClampNeg x1)).toInt ≤ 18 := ma_1152 (i := x1) J45 (show 0 ≤ x1.toInt from by omega) (show x1.toInt < 40 from by omega)
        have u68 : (ps_a s45 1152 (Int32.toNatClampNeg x1)).toInt = (ps_a s 1152 (Int32.toNatClampNeg x1)).toInt := xeq (kp_a K45 1152 rfl _)
        have r69_k : -1 ≤ (ps_a s45 1153 (Int32.toNatClampNeg x1)).toInt ∧ (ps_a s45 1153 (Int32.toNatClampNeg x1)).toInt ≤ 9999 := ma_1153 (i := x1) J45 (show 0 ≤ x1.toInt from by omega) (show x1.toInt < 40 from by omega)
        have u70 : (ps_a s45 1153 (Int32.toNatClampNeg x1)).toInt = (ps_a s 1153 (Int32.toNatClampNeg x1)).toInt := xeq (kp_a K45 1153 rfl _)
        exact ms_255_207 (x1 := x1) (σ := σ) k  x2 x3 _ J63 K64 hS hC hA hO (show 0 ≤ x1.toInt from by omega) (show x1.toInt < 40 from by omega) (show (ps_i s0 1131 51).toInt ≤ 100 from by omega) (show (ps_i s45 1131 51).toInt = (ps_i s0 1131 51).toInt from by omega) (show (ps_a s45 1152 (Int32.toNatClampNeg x1)).toInt = 10 ∨ (ps_a s45 1152 (Int32.toNatClampNeg x1)).toInt = 17 ∨ (ps_a s45 1152 (Int32.toNatClampNeg x1)).toInt = 18 from by omega) (show x2.toInt = 41 * (ps_a s45 1153 (Int32.toNatClampNeg x1)).toInt from by omega) (show x3.toInt = 22468 + 41 * x1.toInt from by omega)

theorem ms_255_165 {x : Nat → Nat → Nat} {t : Int32} {d : Nat} {s0 : ps_S} {σ : mSig} {x1 : Int32} {Q : Option Value → ps_S → Prop} (k : ∀ (s' : ps_S), mJ x t s' → kp [1134, 1149] [34, 50, 51] s0 s' → (As σ (ps_a s' 1134) x1.toInt (ps_i s' 1131 51).toInt) → (OutB (ps_a s0 1134) (ps_a s' 1134) x1.toInt) → ((ps_i s0 1131 51).toInt ≤ (ps_i s' 1131 51).toInt) → ((ps_i s' 1131 51).toInt ≤ (ps_i s0 1131 51).toInt + 36) → (Res σ (ps_a s' 1149) (ps_i s' 1131 34).toInt (ps_i s' 1131 50).toInt) → Q none s') (x2 : Int32) (x3 : Int32) (s : ps_S) (J : mJ x t s) (K : kp [1134, 1149] [34, 50, 51] s0 s) (hS : Sg (ps_a s 1135) (ps_a s 1136) (ps_a s 1138) (ps_a s 1139) (ps_i s 1131 21).toInt σ) (hC : SC σ (ps_a s 1134) (ps_a s 1157) (ps_a s 1152) (ps_a s 1153) (ps_a s 1154) (ps_a s 1155) (ps_i s 1131 21).toInt x1.toInt) (hA : As σ (ps_a s 1134) x1.toInt (ps_i s 1131 51).toInt) (hO : OutB (ps_a s0 1134) (ps_a s 1134) x1.toInt) (i4_k : 0 ≤ x1.toInt) (i5_k : x1.toInt < 40) (i6_k : (ps_i s0 1131 51).toInt ≤ 100) (i7_k : (ps_i s 1131 51).toInt = (ps_i s0 1131 51).toInt) (i8_k : (ps_a s 1152 (Int32.toNatClampNeg x1)).toInt = 10 ∨ (ps_a s 1152 (Int32.toNatClampNeg x1)).toInt = 17 ∨ (ps_a s 1152 (Int32.toNatClampNeg x1)).toInt = 18) (i9_k : x2.toInt = 41 * (ps_a s 1153 (Int32.toNatClampNeg x1)).toInt) (i10_k : x3.toInt = 22468 + 41 * x1.toInt) (hM : Md (ps_a s 1149) (ps_i s 1131 34).toInt ([] : List Nat)) : ps_At (d + 5) 255 165 [(0, .ref 1131), (1, .int x1), (2, .int x2), (3, .int x3)] [] s Q := by
  have r1_k := mf_51 J
  have r2_k : 0 ≤ (ps_a s 1152 (Int32.toNatClampNeg x1)).toInt ∧ (ps_a s 1152 (Int32.toNatClampNeg x1)).toInt ≤ 18 := ma_1152 (i := x1) J (show 0 ≤ x1.toInt from by omega) (show x1.toInt < 40 from by omega)
  have r3_k : -1 ≤ (ps_a s 1153 (Int32.toNatClampNeg x1)).toInt ∧ (ps_a s 1153 (Int32.toNatClampNeg x1)).toInt ≤ 9999 := ma_1153 (i := x1) J (show 0 ≤ x1.toInt from by omega) (show x1.toInt < 40 from by omega)
  refine pg_255_165 (d := d + 4) ?_
  refine ps_nd_i (show pm_in x1 40 = true from xgi (show 0 ≤ x1.toInt from by omega) (show x1.toInt < 40 from by omega)) ?_
  refine And.intro (fun h4_k => ?_) (fun h4_k => ?_)
  · have f5_k : (ps_a s 1152 (Int32.toNatClampNeg x1)).toInt ≠ (10 : Int) := xne h4_k
    exact ms_255_181 (x1 := x1) (σ := σ) k  x2 x3 _ J K hS hC hA hO (show 0 ≤ x1.toInt from by omega) (show x1.toInt < 40 from by omega) (show (ps_i s0 1131 51).toInt ≤ 100 from by omega) (show (ps_i s 1131 51).toInt = (ps_i s0 1131 51).toInt from by omega) (show (ps_a s 1152 (Int32.toNatClampNeg x1)).toInt = 10 ∨ (ps_a s 1152 (Int32.toNatClampNeg x1)).toInt = 17 ∨ (ps_a s 1152 (Int32.toNatClampNeg x1)).toInt = 18 from by omega) (show x2.toInt = 41 * (ps_a s 1153 (Int32.toNatClampNeg x1)).toInt from by omega) (show x3.toInt = 22468 + 41 * x1.toInt from by omega) ((by first | exact ⟨_, hM1, by rw [List.nil_append]; omega⟩ | exact ⟨_, hM, by decide⟩))
  · have f6_k : (ps_a s 1152 (Int32.toNatClampNeg x1)).toInt = (10 : Int) := xeq h4_k
    obtain ⟨l, hl1, hl2⟩ := SC_f (j := x3) hC rfl (by omega) (by omega)
    have hlen := hl1.2.2.2.1
    refine ms_227 J (hl1) (hM) ((by rw [List.length_nil]; omega)) (fun s7 J7 K7 p7_0 => ?_)
    have K8 := kpt K K7 rfl rfl
    have KC := K7
    have hS : Sg (ps_a s7 1135) (ps_a s7 1136) (ps_a s7 1138) (ps_a s7 1139) (ps_i s7 1131 21).toInt σ := by rw [show ps_a s7 1135 = ps_a s 1135 from (K7.2 1135 rfl).1, show ps_a s7 1136 = ps_a s 1136 from (K7.2 1136 rfl).1, show ps_a s7 1138 = ps_a s 1138 from (K7.2 1138 rfl).1, show ps_a s7 1139 = ps_a s 1139 from (K7.2 1139 rfl).1, show ps_i s7 1131 21 = ps_i s 1131 21 from kp_i K7 21 rfl]; exact hS
    have hC : SC σ (ps_a s7 1134) (ps_a s7 1157) (ps_a s7 1152) (ps_a s7 1153) (ps_a s7 1154) (ps_a s7 1155) (ps_i s7 1131 21).toInt x1.toInt := by rw [show ps_a s7 1134 = ps_a s 1134 from (K7.2 1134 rfl).1, show ps_a s7 1157 = ps_a s 1157 from (K7.2 1157 rfl).1, show ps_a s7 1152 = ps_a s 1152 from (K7.2 1152 rfl).1, show ps_a s7 1153 = ps_a s 1153 from (K7.2 1153 rfl).1, show ps_a s7 1154 = ps_a s 1154 from (K7.2 1154 rfl).1, show ps_a s7 1155 = ps_a s 1155 from (K7.2 1155 rfl).1, show ps_i s7 1131 21 = ps_i s 1131 21 from kp_i K7 21 rfl]; exact hC
    have hA : As σ (ps_a s7 1134) x1.toInt (ps_i s7 1131 51).toInt := by rw [show ps_a s7 1134 = ps_a s 1134 from (K7.2 1134 rfl).1, show ps_i s7 1131 51 = ps_i s 1131 51 from kp_i K7 51 rfl]; exact hA
    have hO : OutB (ps_a s0 1134) (ps_a s7 1134) x1.toInt := by rw [show ps_a s7 1134 = ps_a s 1134 from (K7.2 1134 rfl).1]; exact hO
    have hM1 : _ := p7_0
    have r9_k := mf_51 J7
    have u10 : (ps_i s7 1131 51).toInt = (ps_i s 1131 51).toInt := xeq (kp_i K7 51 rfl)
    have r11_k : 0 ≤ (ps_a s7 1152 (Int32.toNatClampNeg x1)).toInt ∧ (ps_a s7 1152 (Int32.toNatClampNeg x1)).toInt ≤ 18 := ma_1152 (i := x1) J7 (show 0 ≤ x1.toInt from by omega) (show x1.toInt < 40 from by omega)
    have u12 : (ps_a s7 1152 (Int32.toNatClampNeg x1)).toInt = (ps_a s 1152 (Int32.toNatClampNeg x1)).toInt := xeq (kp_a K7 1152 rfl _)
    have r13_k : -1 ≤ (ps_a s7 1153 (Int32.toNatClampNeg x1)).toInt ∧ (ps_a s7 1153 (Int32.toNatClampNeg x1)).toInt ≤ 9999 := ma_1153 (i := x1) J7 (show 0 ≤ x1.toInt from by omega) (show x1.toInt < 40 from by omega)
    have u14 : (ps_a s7 1153 (Int32.toNatClampNeg x1)).toInt = (ps_a s 1153 (Int32.toNatClampNeg x1)).toInt := xeq (kp_a K7 1153 rfl _)
    exact ms_255_181 (x1 := x1) (σ := σ) k  x2 x3 _ J7 K8 hS hC hA hO (show 0 ≤ x1.toInt from by omega) (show x1.toInt < 40 from by omega) (show (ps_i s0 1131 51).toInt ≤ 100 from by omega) (show (ps_i s7 1131 51).toInt = (ps_i s0 1131 51).toInt from by omega) (show (ps_a s7 1152 (Int32.toNatClampNeg x1)).toInt = 10 ∨ (ps_a s7 1152 (Int32.toNatClampNeg x1)).toInt = 17 ∨ (ps_a s7 1152 (Int32.toNatClampNeg x1)).toInt = 18 from by omega) (show x2.toInt = 41 * (ps_a s7 1153 (Int32.toNatClampNeg x1)).toInt from by omega) (show x3.toInt = 22468 + 41 * x1.toInt from by omega) ((by first | exact ⟨_, hM1, by rw [List.nil_append]; omega⟩ | exact ⟨_, hM, by decide⟩))

theorem ms_255 {x : Nat → Nat → Nat} {t : Int32} {s : ps_S} {d : Nat} {x1 : Int32} {f : ps_S → Prop} (J : mJ x t s) {σ : mSig} (hS : Sg (ps_a s 1135) (ps_a s 1136) (ps_a s 1138) (ps_a s 1139) (ps_i s 1131 21).toInt σ) (hC : SC σ (ps_a s 1134) (ps_a s 1157) (ps_a s 1152) (ps_a s 1153) (ps_a s 1154) (ps_a s 1155) (ps_i s 1131 21).toInt x1.toInt) (hA : As σ (ps_a s 1134) x1.toInt (ps_i s 1131 51).toInt) (hM : Md (ps_a s 1149) (ps_i s 1131 34).toInt ([] : List Nat)) (q4_k : 0 ≤ x1.toInt) (q5_k : x1.toInt < 40) (q6_k : (ps_i s 1131 51).toInt ≤ 100) (q7_k : (ps_a s 1152 (Int32.toNatClampNeg x1)).toInt = 8 ∨ (ps_a s 1152 (Int32.toNatClampNeg x1)).toInt = 9 ∨ (ps_a s 1152 (Int32.toNatClampNeg x1)).toInt = 10 ∨ (ps_a s 1152 (Int32.toNatClampNeg x1)).toInt = 17 ∨ (ps_a s 1152 (Int32.toNatClampNeg x1)).toInt = 18) (k : ∀ (s' : ps_S), mJ x t s' → kp [1134, 1149] [34, 50, 51] s s' → (As σ (ps_a s' 1134) x1.toInt (ps_i s' 1131 51).toInt) → (OutB (ps_a s 1134) (ps_a s' 1134) x1.toInt) → ((ps_i s 1131 51).toInt ≤ (ps_i s' 1131 51).toInt) → ((ps_i s' 1131 51).toInt ≤ (ps_i s 1131 51).toInt + 36) → (Res σ (ps_a s' 1149) (ps_i s' 1131 34).toInt (ps_i s' 1131 50).toInt) → f s') : ps_Cl (d + 5) 255 [.ref 1131, .int x1] s (ps_rV f) := by
  have r1_k := mf_51 J
  have r2_k : 0 ≤ (ps_a s 1152 (Int32.toNatClampNeg x1)).toInt ∧ (ps_a s 1152 (Int32.toNatClampNeg x1)).toInt ≤ 18 := ma_1152 (i := x1) J (show 0 ≤ x1.toInt from by omega) (show x1.toInt < 40 from by omega)
  have K : kp [1134, 1149] [34, 50, 51] s s := kp_refl
  refine pg_255_0 (d := d + 4) ?_
  have hO : OutB (ps_a s 1134) (ps_a s 1134) x1.toInt := OutB_refl
  have q1_k := SC_l1 hC rfl ⟨by omega, by omega, by omega, by omega⟩
  refine pg_244_0 ?_
  refine ps_nd_i (show pm_in x1 40 = true from xgi (show 0 ≤ x1.toInt from by omega) (show x1.toInt < 40 from by omega)) ?_
  have r3_k : -1 ≤ (ps_a s 1153 (Int32.toNatClampNeg x1)).toInt ∧ (ps_a s 1153 (Int32.toNatClampNeg x1)).toInt ≤ 9999 := ma_1153 (i := x1) J (show 0 ≤ x1.toInt from by omega) (show x1.toInt < 40 from by omega)
  refine pg_242_0 ?_
  have a4_k : ((41 : Int32) * (ps_a s 1153 (Int32.toNatClampNeg x1))).toInt = (41 : Int) * (ps_a s 1153 (Int32.toNatClampNeg x1)).toInt := xIm (show -2147483648 ≤ (41 : Int) * (ps_a s 1153 (Int32.toNatClampNeg x1)).toInt from by omega) (show (41 : Int) * (ps_a s 1153 (Int32.toNatClampNeg x1)).toInt < 2147483648 from by omega)
  have a5_k : ((0 : Int32) + ((41 : Int32) * (ps_a s 1153 (Int32.toNatClampNeg x1)))).toInt = (0 : Int) + ((41 : Int32) * (ps_a s 1153 (Int32.toNatClampNeg x1))).toInt := xIa (show -2147483648 ≤ (0 : Int) + ((41 : Int32) * (ps_a s 1153 (Int32.toNatClampNeg x1))).toInt from by omega) (show (0 : Int) + ((41 : Int32) * (ps_a s 1153 (Int32.toNatClampNeg x1))).toInt < 2147483648 from by omega)
  obtain ⟨l, hl1, hl2⟩ := SC_1i hC rfl ⟨by omega, by omega, by omega, by omega⟩
  have hl1 : Rw (ps_a s 1134) (((0 : Int32) + ((41 : Int32) * (ps_a s 1153 (Int32.toNatClampNeg x1))))).toInt l := by rw [show (((0 : Int32) + ((41 : Int32) * (ps_a s 1153 (Int32.toNatClampNeg x1))))).toInt = 41 * (ps_a s 1153 (Int32.toNatClampNeg x1)).toInt from by omega]; exact hl1
  obtain ⟨c, l3, rfl⟩ := wf_ne hl2
  have hp_k := Rw_p (l1 := []) (i := 0) hl1 rfl rfl
  have w1 := hl1.1
  have w2 := hl1.2.1
  have w3 := hl1.2.2.1
  have hlen := hl1.2.2.2.1
  have a6_k : ((41 : Int32) * x1).toInt = (41 : Int) * x1.toInt := xIm (show -2147483648 ≤ (41 : Int) * x1.toInt from by omega) (show (41 : Int) * x1.toInt < 2147483648 from by omega)
  have a7_k : ((22468 : Int32) + ((41 : Int32) * x1)).toInt = (22468 : Int) + ((41 : Int32) * x1).toInt := xIa (show -2147483648 ≤ (22468 : Int) + ((41 : Int32) * x1).toInt from by omega) (show (22468 : Int) + ((41 : Int32) * x1).toInt < 2147483648 from by omega)
  refine ps_nd_i (show pm_in x1 40 = true from xgi (show 0 ≤ x1.toInt from by omega) (show x1.toInt < 40 from by omega)) ?_
  refine And.intro (fun h8_k => ?_) (fun h8_k => ?_)
  · have f9_k : (ps_a s 1152 (Int32.toNatClampNeg x1)).toInt ≠ (8 : Int) := xne h8_k
    refine ps_nd_i (show pm_in x1 40 = true from xgi (show 0 ≤ x1.toInt from by omega) (show x1.toInt < 40 from by omega)) ?_
    refine And.intro (fun h10_k => ?_) (fun h10_k => ?_)
    · have f11_k : (ps_a s 1152 (Int32.toNatClampNeg x1)).toInt ≠ (9 : Int) := xne h10_k
      refine ps_nd_i (show pm_in x1 40 = true from xgi (show 0 ≤ x1.toInt from by omega) (show x1.toInt < 40 from by omega)) ?_
      refine And.intro (fun h12_k => ?_) (fun h12_k => ?_)
      · have f13_k : (ps_a s 1152 (Int32.toNatClampNeg x1)).toInt = (10 : Int) := xeq h12_k
        exact ms_255_165 (x1 := x1) (σ := σ) k  ((0 : Int32) + ((41 : Int32) * (ps_a s 1153 (Int32.toNatClampNeg x1)))) ((22468 : Int32) + ((41 : Int32) * x1)) _ J K hS hC hA hO (show 0 ≤ x1.toInt from by omega) (show x1.toInt < 40 from by omega) (show (ps_i s 1131 51).toInt ≤ 100 from by omega) (show (ps_i s 1131 51).toInt = (ps_i s 1131 51).toInt from by omega) (show (ps_a s 1152 (Int32.toNatClampNeg x1)).toInt = 10 ∨ (ps_a s 1152 (Int32.toNatClampNeg x1)).toInt = 17 ∨ (ps_a s 1152 (Int32.toNatClampNeg x1)).toInt = 18 from by omega) (show ((0 : Int32) + ((41 : Int32) * (ps_a s 1153 (Int32.toNatClampNeg x1)))).toInt = 41 * (ps_a s 1153 (Int32.toNatClampNeg x1)).toInt from by omega) (show ((22468 : Int32) + ((41 : Int32) * x1)).toInt = 22468 + 41 * x1.toInt from by omega) hM
      · have f14_k : (ps_a s 1152 (Int32.toNatClampNeg x1)).toInt ≠ (10 : Int) := xne h12_k
        refine pg_247_0 ?_
        refine pg_220_0 ?_
        have a15_k : (((0 : Int32) + ((41 : Int32) * (ps_a s 1153 (Int32.toNatClampNeg x1)))) + 1).toInt = ((0 : Int32) + ((41 : Int32) * (ps_a s 1153 (Int32.toNatClampNeg x1)))).toInt + (1 : Int) := xIa (show -2147483648 ≤ ((0 : Int32) + ((41 : Int32) * (ps_a s 1153 (Int32.toNatClampNeg x1)))).toInt + (1 : Int) from by omega) (show ((0 : Int32) + ((41 : Int32) * (ps_a s 1153 (Int32.toNatClampNeg x1)))).toInt + (1 : Int) < 2147483648 from by omega)
        have a16_k : ((((0 : Int32) + ((41 : Int32) * (ps_a s 1153 (Int32.toNatClampNeg x1)))) + 1) + 0).toInt = (((0 : Int32) + ((41 : Int32) * (ps_a s 1153 (Int32.toNatClampNeg x1)))) + 1).toInt + (0 : Int) := xIa (show -2147483648 ≤ (((0 : Int32) + ((41 : Int32) * (ps_a s 1153 (Int32.toNatClampNeg x1)))) + 1).toInt + (0 : Int) from by omega) (show (((0 : Int32) + ((41 : Int32) * (ps_a s 1153 (Int32.toNatClampNeg x1)))) + 1).toInt + (0 : Int) < 2147483648 from by omega)
        refine ps_nd_i (show pm_in ((((0 : Int32) + ((41 : Int32) * (ps_a s 1153 (Int32.toNatClampNeg x1)))) + 1) + 0) 27400 = true from xgi (show 0 ≤ ((((0 : Int32) + ((41 : Int32) * (ps_a s 1153 (Int32.toNatClampNeg x1)))) + 1) + 0).toInt from by omega) (show ((((0 : Int32) + ((41 : Int32) * (ps_a s 1153 (Int32.toNatClampNeg x1)))) + 1) + 0).toInt < 27400 from by omega)) ?_
        have r17_k : ((((0 : Int32) + ((41 : Int32) * (ps_a s 1153 (Int32.toNatClampNeg x1)))) + 1) + 0).toInt % 41 = 0 → ((((0 : Int32) + ((41 : Int32) * (ps_a s 1153 (Int32.toNatClampNeg x1)))) + 1) + 0).toInt < 27306 → 0 ≤ (ps_a s 1134 (Int32.toNatClampNeg ((((0 : Int32) + ((41 : Int32) * (ps_a s 1153 (Int32.toNatClampNeg x1)))) + 1) + 0))).toInt ∧ (ps_a s 1134 (Int32.toNatClampNeg ((((0 : Int32) + ((41 : Int32) * (ps_a s 1153 (Int32.toNatClampNeg x1)))) + 1) + 0))).toInt ≤ 40 := fun z1_k z2_k => mp_row (i := ((((0 : Int32) + ((41 : Int32) * (ps_a s 1153 (Int32.toNatClampNeg x1)))) + 1) + 0)) J z1_k (show 0 ≤ ((((0 : Int32) + ((41 : Int32) * (ps_a s 1153 (Int32.toNatClampNeg x1)))) + 1) + 0).toInt from by omega) z2_k
        refine And.intro (fun h18_k => ?_) (fun h18_k => ?_)
        · have f19_k : (ps_a s 1134 (Int32.toNatClampNeg ((((0 : Int32) + ((41 : Int32) * (ps_a s 1153 (Int32.toNatClampNeg x1)))) + 1) + 0))).toInt = (0 : Int) := xeq h18_k
          exact ms_255_165 (x1 := x1) (σ := σ) k  ((0 : Int32) + ((41 : Int32) * (ps_a s 1153 (Int32.toNatClampNeg x1)))) ((22468 : Int32) + ((41 : Int32) * x1)) _ J K hS hC hA hO (show 0 ≤ x1.toInt from by omega) (show x1.toInt < 40 from by omega) (show (ps_i s 1131 51).toInt ≤ 100 from by omega) (show (ps_i s 1131 51).toInt = (ps_i s 1131 51).toInt from by omega) (show (ps_a s 1152 (Int32.toNatClampNeg x1)).toInt = 10 ∨ (ps_a s 1152 (Int32.toNatClampNeg x1)).toInt = 17 ∨ (ps_a s 1152 (Int32.toNatClampNeg x1)).toInt = 18 from by omega) (show ((0 : Int32) + ((41 : Int32) * (ps_a s 1153 (Int32.toNatClampNeg x1)))).toInt = 41 * (ps_a s 1153 (Int32.toNatClampNeg x1)).toInt from by omega) (show ((22468 : Int32) + ((41 : Int32) * x1)).toInt = 22468 + 41 * x1.toInt from by omega) hM
        · have f20_k : (ps_a s 1134 (Int32.toNatClampNeg ((((0 : Int32) + ((41 : Int32) * (ps_a s 1153 (Int32.toNatClampNeg x1)))) + 1) + 0))).toInt ≠ (0 : Int) := xne h18_k
          refine ms_241 J (show 1 ≤ (2 : Int) from by omega) (show (2 : Int) ≤ 5 from by omega) (fun s21 J21 K21 p21_0 => ?_)
          have K22 := kpt K K21 rfl rfl
          have KC := K21
          have hS : Sg (ps_a s21 1135) (ps_a s21 1136) (ps_a s21 1138) (ps_a s21 1139) (ps_i s21 1131 21).toInt σ := by rw [show ps_a s21 1135 = ps_a s 1135 from (K21.2 1135 rfl).1, show ps_a s21 1136 = ps_a s 1136 from (K21.2 1136 rfl).1, show ps_a s21 1138 = ps_a s 1138 from (K21.2 1138 rfl).1, show ps_a s21 1139 = ps_a s 1139 from (K21.2 1139 rfl).1, show ps_i s21 1131 21 = ps_i s 1131 21 from kp_i K21 21 rfl]; exact hS
          have hC : SC σ (ps_a s21 1134) (ps_a s21 1157) (ps_a s21 1152) (ps_a s21 1153) (ps_a s21 1154) (ps_a s21 1155) (ps_i s21 1131 21).toInt x1.toInt := by rw [show ps_a s21 1134 = ps_a s 1134 from (K21.2 1134 rfl).1, show ps_a s21 1157 = ps_a s 1157 from (K21.2 1157 rfl).1, show ps_a s21 1152 = ps_a s 1152 from (K21.2 1152 rfl).1, show ps_a s21 1153 = ps_a s 1153 from (K21.2 1153 rfl).1, show ps_a s21 1154 = ps_a s 1154 from (K21.2 1154 rfl).1, show ps_a s21 1155 = ps_a s 1155 from (K21.2 1155 rfl).1, show ps_i s21 1131 21 = ps_i s 1131 21 from kp_i K21 21 rfl]; exact hC
          have hA : As σ (ps_a s21 1134) x1.toInt (ps_i s21 1131 51).toInt := by rw [show ps_a s21 1134 = ps_a s 1134 from (K21.2 1134 rfl).1, show ps_i s21 1131 51 = ps_i s 1131 51 from kp_i K21 51 rfl]; exact hA
          have hM : Md (ps_a s21 1149) (ps_i s21 1131 34).toInt ([] : List Nat) := by rw [show ps_a s21 1149 = ps_a s 1149 from (K21.2 1149 rfl).1, show ps_i s21 1131 34 = ps_i s 1131 34 from kp_i K21 34 rfl]; exact hM
          have hO : OutB (ps_a s 1134) (ps_a s21 1134) x1.toInt := by rw [show ps_a s21 1134 = ps_a s 1134 from (K21.2 1134 rfl).1]; exact hO
          have p21_0' : 1 ≤ (ps_i s21 1131 50).toInt := p21_0
          have r23_k := mf_50 J21
          have r24_k := mf_51 J21
          have u25 : (ps_i s21 1131 51).toInt = (ps_i s 1131 51).toInt := xeq (kp_i K21 51 rfl)
          have r26_k : 0 ≤ (ps_a s21 1152 (Int32.toNatClampNeg x1)).toInt ∧ (ps_a s21 1152 (Int32.toNatClampNeg x1)).toInt ≤ 18 := ma_1152 (i := x1) J21 (show 0 ≤ x1.toInt from by omega) (show x1.toInt < 40 from by omega)
          have u27 : (ps_a s21 1152 (Int32.toNatClampNeg x1)).toInt = (ps_a s 1152 (Int32.toNatClampNeg x1)).toInt := xeq (kp_a K21 1152 rfl _)
          have r28_k : -1 ≤ (ps_a s21 1153 (Int32.toNatClampNeg x1)).toInt ∧ (ps_a s21 1153 (Int32.toNatClampNeg x1)).toInt ≤ 9999 := ma_1153 (i := x1) J21 (show 0 ≤ x1.toInt from by omega) (show x1.toInt < 40 from by omega)
          have u29 : (ps_a s21 1153 (Int32.toNatClampNeg x1)).toInt = (ps_a s 1153 (Int32.toNatClampNeg x1)).toInt := xeq (kp_a K21 1153 rfl _)
          exact ms_255_165 (x1 := x1) (σ := σ) k  ((0 : Int32) + ((41 : Int32) * (ps_a s 1153 (Int32.toNatClampNeg x1)))) ((22468 : Int32) + ((41 : Int32) * x1)) _ J21 K22 hS hC hA hO (show 0 ≤ x1.toInt from by omega) (show x1.toInt < 40 from by omega) (show (ps_i s 1131 51).toInt ≤ 100 from by omega) (show (ps_i s21 1131 51).toInt = (ps_i s 1131 51).toInt from by omega) (show (ps_a s21 1152 (Int32.toNatClampNeg x1)).toInt = 10 ∨ (ps_a s21 1152 (Int32.toNatClampNeg x1)).toInt = 17 ∨ (ps_a s21 1152 (Int32.toNatClampNeg x1)).toInt = 18 from by omega) (show ((0 : Int32) + ((41 : Int32) * (ps_a s 1153 (Int32.toNatClampNeg x1)))).toInt = 41 * (ps_a s21 1153 (Int32.toNatClampNeg x1)).toInt from by omega) (show ((22468 : Int32) + ((41 : Int32) * x1)).toInt = 22468 + 41 * x1.toInt from by omega) hM
    · have f30_k : (ps_a s 1152 (Int32.toNatClampNeg x1)).toInt = (9 : Int) := xeq h10_k
      have q2_k := SC_l2 hC rfl (by omega)
      refine pg_247_0 ?_
      refine pg_220_0 ?_
      have a31_k : (((0 : Int32) + ((41 : Int32) * (ps_a s 1153 (Int32.toNatClampNeg x1)))) + 1).toInt = ((0 : Int32) + ((41 : Int32) * (ps_a s 1153 (Int32.toNatClampNeg x1)))).toInt + (1 : Int) := xIa (show -2147483648 ≤ ((0 : Int32) + ((41 : Int32) * (ps_a s 1153 (Int32.toNatClampNeg x1)))).toInt + (1 : Int) from by omega) (show ((0 : Int32) + ((41 : Int32) * (ps_a s 1153 (Int32.toNatClampNeg x1)))).toInt + (1 : Int) < 2147483648 from by omega)
      have a32_k : ((((0 : Int32) + ((41 : Int32) * (ps_a s 1153 (Int32.toNatClampNeg x1)))) + 1) + 0).toInt = (((0 : Int32) + ((41 : Int32) * (ps_a s 1153 (Int32.toNatClampNeg x1)))) + 1).toInt + (0 : Int) := xIa (show -2147483648 ≤ (((0 : Int32) + ((41 : Int32) * (ps_a s 1153 (Int32.toNatClampNeg x1)))) + 1).toInt + (0 : Int) from by omega) (show (((0 : Int32) + ((41 : Int32) * (ps_a s 1153 (Int32.toNatClampNeg x1)))) + 1).toInt + (0 : Int) < 2147483648 from by omega)
      refine ps_nd_i (show pm_in ((((0 : Int32) + ((41 : Int32) * (ps_a s 1153 (Int32.toNatClampNeg x1)))) + 1) + 0) 27400 = true from xgi (show 0 ≤ ((((0 : Int32) + ((41 : Int32) * (ps_a s 1153 (Int32.toNatClampNeg x1)))) + 1) + 0).toInt from by omega) (show ((((0 : Int32) + ((41 : Int32) * (ps_a s 1153 (Int32.toNatClampNeg x1)))) + 1) + 0).toInt < 27400 from by omega)) ?_
      have r33_k : ((((0 : Int32) + ((41 : Int32) * (ps_a s 1153 (Int32.toNatClampNeg x1)))) + 1) + 0).toInt % 41 = 0 → ((((0 : Int32) + ((41 : Int32) * (ps_a s 1153 (Int32.toNatClampNeg x1)))) + 1) + 0).toInt < 27306 → 0 ≤ (ps_a s 1134 (Int32.toNatClampNeg ((((0 : Int32) + ((41 : Int32) * (ps_a s 1153 (Int32.toNatClampNeg x1)))) + 1) + 0))).toInt ∧ (ps_a s 1134 (Int32.toNatClampNeg ((((0 : Int32) + ((41 : Int32) * (ps_a s 1153 (Int32.toNatClampNeg x1)))) + 1) + 0))).toInt ≤ 40 := fun z1_k z2_k => mp_row (i := ((((0 : Int32) + ((41 : Int32) * (ps_a s 1153 (Int32.toNatClampNeg x1)))) + 1) + 0)) J z1_k (show 0 ≤ ((((0 : Int32) + ((41 : Int32) * (ps_a s 1153 (Int32.toNatClampNeg x1)))) + 1) + 0).toInt from by omega) z2_k
      refine And.intro (fun h34_k => ?_) (fun h34_k => ?_)
      · have f35_k : (ps_a s 1134 (Int32.toNatClampNeg ((((0 : Int32) + ((41 : Int32) * (ps_a s 1153 (Int32.toNatClampNeg x1)))) + 1) + 0))).toInt ≠ (3 : Int) := xne h34_k
        refine ms_226 J ((by first | exact (show Rw (ps_a s 1134) (((0 : Int32) + ((41 : Int32) * (ps_a s 1153 (Int32.toNatClampNeg x1))))).toInt ([3] ++ (p ++ q)) from hl1) | exact (show Rw (ps_a s 1134) (((0 : Int32) + ((41 : Int32) * (ps_a s 1153 (Int32.toNatClampNeg x1))))).toInt ([c] ++ ([] ++ l3)) from hl1))) (hM) ((by rfl)) ((by first | exact Or.inl hv_k | exact Or.inr ⟨rfl, by decide⟩)) ((by first | (rw [List.length_nil]; omega) | (show 0 + 0 ≤ 90000; omega))) (fun s36 J36 K36 p36_0 => ?_)
        have K37 := kpt K K36 rfl rfl
        have KC := K36
        have hS : Sg (ps_a s36 1135) (ps_a s36 1136) (ps_a s36 1138) (ps_a s36 1139) (ps_i s36 1131 21).toInt σ := by rw [show ps_a s36 1135 = ps_a s 1135 from (K36.2 1135 rfl).1, show ps_a s36 1136 = ps_a s 1136 from (K36.2 1136 rfl).1, show ps_a s36 1138 = ps_a s 1138 from (K36.2 1138 rfl).1, show ps_a s36 1139 = ps_a s 1139 from (K36.2 1139 rfl).1, show ps_i s36 1131 21 = ps_i s 1131 21 from kp_i K36 21 rfl]; exact hS
        have hC : SC σ (ps_a s36 1134) (ps_a s36 1157) (ps_a s36 1152) (ps_a s36 1153) (ps_a s36 1154) (ps_a s36 1155) (ps_i s36 1131 21).toInt x1.toInt := by rw [show ps_a s36 1134 = ps_a s 1134 from (K36.2 1134 rfl).1, show ps_a s36 1157 = ps_a s 1157 from (K36.2 1157 rfl).1, show ps_a s36 1152 = ps_a s 1152 from (K36.2 1152 rfl).1, show ps_a s36 1153 = ps_a s 1153 from (K36.2 1153 rfl).1, show ps_a s36 1154 = ps_a s 1154 from (K36.2 1154 rfl).1, show ps_a s36 1155 = ps_a s 1155 from (K36.2 1155 rfl).1, show ps_i s36 1131 21 = ps_i s 1131 21 from kp_i K36 21 rfl]; exact hC
        have hA : As σ (ps_a s36 1134) x1.toInt (ps_i s36 1131 51).toInt := by rw [show ps_a s36 1134 = ps_a s 1134 from (K36.2 1134 rfl).1, show ps_i s36 1131 51 = ps_i s 1131 51 from kp_i K36 51 rfl]; exact hA
        have hO : OutB (ps_a s 1134) (ps_a s36 1134) x1.toInt := by rw [show ps_a s36 1134 = ps_a s 1134 from (K36.2 1134 rfl).1]; exact hO
        refine And.intro (fun h38_k => ?_) (fun h38_k => ?_)
        · have r39_k := mf_51 J36
          have u40 : (ps_i s36 1131 51).toInt = (ps_i s 1131 51).toInt := xeq (kp_i K36 51 rfl)
          have r41_k : 0 ≤ (ps_a s36 1152 (Int32.toNatClampNeg x1)).toInt ∧ (ps_a s36 1152 (Int32.toNatClampNeg x1)).toInt ≤ 18 := ma_1152 (i := x1) J36 (show 0 ≤ x1.toInt from by omega) (show x1.toInt < 40 from by omega)
          have u42 : (ps_a s36 1152 (Int32.toNatClampNeg x1)).toInt = (ps_a s 1152 (Int32.toNatClampNeg x1)).toInt := xeq (kp_a K36 1152 rfl _)
          have r43_k : -1 ≤ (ps_a s36 1153 (Int32.toNatClampNeg x1)).toInt ∧ (ps_a s36 1153 (Int32.toNatClampNeg x1)).toInt ≤ 9999 := ma_1153 (i := x1) J36 (show 0 ≤ x1.toInt from by omega) (show x1.toInt < 40 from by omega)
          have u44 : (ps_a s36 1153 (Int32.toNatClampNeg x1)).toInt = (ps_a s 1153 (Int32.toNatClampNeg x1)).toInt := xeq (kp_a K36 1153 rfl _)
          exact ms_255_89 (x1 := x1) (σ := σ) k  ((0 : Int32) + ((41 : Int32) * (ps_a s 1153 (Int32.toNatClampNeg x1)))) (0) _ J36 K37 hS hC hA hO (show 0 ≤ x1.toInt from by omega) (show x1.toInt < 40 from by omega) (show (ps_i s 1131 51).toInt ≤ 100 from by omega) (show (ps_i s36 1131 51).toInt = (ps_i s 1131 51).toInt from by omega) (show (ps_a s36 1152 (Int32.toNatClampNeg x1)).toInt = 9 from by omega) (show ((0 : Int32) + ((41 : Int32) * (ps_a s 1153 (Int32.toNatClampNeg x1)))).toInt = 41 * (ps_a s36 1153 (Int32.toNatClampNeg x1)).toInt from by omega) ((by first | exact Or.inr ⟨p, q, (by rw [show ps_a s36 1134 = ps_a s 1134 from (KC.2 1134 rfl).1]; exact hl1), hp1, hp2, hv2⟩ | exact Or.inl (by first | rfl | omega)))
        · exact absurd (show (0 : Int32) ≠ (0 : Int32) from h38_k) (by decide)
      · have f45_k : (ps_a s 1134 (Int32.toNatClampNeg ((((0 : Int32) + ((41 : Int32) * (ps_a s 1153 (Int32.toNatClampNeg x1)))) + 1) + 0))).toInt = (3 : Int) := xeq h34_k
        have hc1 : c = 3 := by omega
        subst hc1
        obtain ⟨ks_k, hk_k, hw2⟩ := ws_hd (show ws σ (3 :: l3) [true] from wf_ws hl2)
        rw [kS_f2 (by decide) (by decide)] at hk_k
        cases hk_k
        obtain ⟨p, q, hpq_k, hp1, hp2⟩ := ws_split (W1 := [true]) (W2 := [true]) hw2
        subst hpq_k
        rw [List.length_cons, List.length_append] at hlen
        refine ms_221 J hS ((show Rw (ps_a s 1134) (((0 : Int32) + ((41 : Int32) * (ps_a s 1153 (Int32.toNatClampNeg x1))))).toInt ([3] ++ (p ++ q)) from hl1)) (rfl) (hp1) (fun v46 p46_0 => ?_)
        have hv_k : _ := p46_0
        have hv2 : (v46).toInt = 1 + (p.length : Int) := hv_k
        refine ms_226 J ((by first | exact (show Rw (ps_a s 1134) (((0 : Int32) + ((41 : Int32) * (ps_a s 1153 (Int32.toNatClampNeg x1))))).toInt ([3] ++ (p ++ q)) from hl1) | exact (show Rw (ps_a s 1134) (((0 : Int32) + ((41 : Int32) * (ps_a s 1153 (Int32.toNatClampNeg x1))))).toInt ([c] ++ ([] ++ l3)) from hl1))) (hM) ((by rfl)) ((by first | exact Or.inl hv_k | exact Or.inr ⟨rfl, by decide⟩)) ((by first | (rw [List.length_nil]; omega) | (show 0 + 0 ≤ 90000; omega))) (fun s47 J47 K47 p47_0 => ?_)
        have K48 := kpt K K47 rfl rfl
        have KC := K47
        have hS : Sg (ps_a s47 1135) (ps_a s47 1136) (ps_a s47 1138) (ps_a s47 1139) (ps_i s47 1131 21).toInt σ := by rw [show ps_a s47 1135 = ps_a s 1135 from (K47.2 1135 rfl).1, show ps_a s47 1136 = ps_a s 1136 from (K47.2 1136 rfl).1, show ps_a s47 1138 = ps_a s 1138 from (K47.2 1138 rfl).1, show ps_a s47 1139 = ps_a s 1139 from (K47.2 1139 rfl).1, show ps_i s47 1131 21 = ps_i s 1131 21 from kp_i K47 21 rfl]; exact hS
        have hC : SC σ (ps_a s47 1134) (ps_a s47 1157) (ps_a s47 1152) (ps_a s47 1153) (ps_a s47 1154) (ps_a s47 1155) (ps_i s47 1131 21).toInt x1.toInt := by rw [show ps_a s47 1134 = ps_a s 1134 from (K47.2 1134 rfl).1, show ps_a s47 1157 = ps_a s 1157 from (K47.2 1157 rfl).1, show ps_a s47 1152 = ps_a s 1152 from (K47.2 1152 rfl).1, show ps_a s47 1153 = ps_a s 1153 from (K47.2 1153 rfl).1, show ps_a s47 1154 = ps_a s 1154 from (K47.2 1154 rfl).1, show ps_a s47 1155 = ps_a s 1155 from (K47.2 1155 rfl).1, show ps_i s47 1131 21 = ps_i s 1131 21 from kp_i K47 21 rfl]; exact hC
        have hA : As σ (ps_a s47 1134) x1.toInt (ps_i s47 1131 51).toInt := by rw [show ps_a s47 1134 = ps_a s 1134 from (K47.2 1134 rfl).1, show ps_i s47 1131 51 = ps_i s 1131 51 from kp_i K47 51 rfl]; exact hA
        have hO : OutB (ps_a s 1134) (ps_a s47 1134) x1.toInt := by rw [show ps_a s47 1134 = ps_a s 1134 from (K47.2 1134 rfl).1]; exact hO
        refine And.intro (fun h49_k => ?_) (fun h49_k => ?_)
        · have f50_k : v46.toInt = (0 : Int) := xeq h49_k
          have r51_k := mf_51 J47
          have u52 : (ps_i s47 1131 51).toInt = (ps_i s 1131 51).toInt := xeq (kp_i K47 51 rfl)
          have r53_k : 0 ≤ (ps_a s47 1152 (Int32.toNatClampNeg x1)).toInt ∧ (ps_a s47 1152 (Int32.toNatClampNeg x1)).toInt ≤ 18 := ma_1152 (i := x1) J47 (show 0 ≤ x1.toInt from by omega) (show x1.toInt < 40 from by omega)
          have u54 : (ps_a s47 1152 (Int32.toNatClampNeg x1)).toInt = (ps_a s 1152 (Int32.toNatClampNeg x1)).toInt := xeq (kp_a K47 1152 rfl _)
          have r55_k : -1 ≤ (ps_a s47 1153 (Int32.toNatClampNeg x1)).toInt ∧ (ps_a s47 1153 (Int32.toNatClampNeg x1)).toInt ≤ 9999 := ma_1153 (i := x1) J47 (show 0 ≤ x1.toInt from by omega) (show x1.toInt < 40 from by omega)
          have u56 : (ps_a s47 1153 (Int32.toNatClampNeg x1)).toInt = (ps_a s 1153 (Int32.toNatClampNeg x1)).toInt := xeq (kp_a K47 1153 rfl _)
          exact ms_255_89 (x1 := x1) (σ := σ) k  ((0 : Int32) + ((41 : Int32) * (ps_a s 1153 (Int32.toNatClampNeg x1)))) v46 _ J47 K48 hS hC hA hO (show 0 ≤ x1.toInt from by omega) (show x1.toInt < 40 from by omega) (show (ps_i s 1131 51).toInt ≤ 100 from by omega) (show (ps_i s47 1131 51).toInt = (ps_i s 1131 51).toInt from by omega) (show (ps_a s47 1152 (Int32.toNatClampNeg x1)).toInt = 9 from by omega) (show ((0 : Int32) + ((41 : Int32) * (ps_a s 1153 (Int32.toNatClampNeg x1)))).toInt = 41 * (ps_a s47 1153 (Int32.toNatClampNeg x1)).toInt from by omega) ((by first | exact Or.inr ⟨p, q, (by rw [show ps_a s47 1134 = ps_a s 1134 from (KC.2 1134 rfl).1]; exact hl1), hp1, hp2, hv2⟩ | exact Or.inl (by first | rfl | omega)))
        · have f57_k : v46.toInt ≠ (0 : Int) := xne h49_k
          refine pg_245_0 ?_
          refine ps_nd_i (show pm_in x1 40 = true from xgi (show 0 ≤ x1.toInt from by omega) (show x1.toInt < 40 from by omega)) ?_
          have r58_k : 0 ≤ (ps_a s47 1154 (Int32.toNatClampNeg x1)).toInt ∧ (ps_a s47 1154 (Int32.toNatClampNeg x1)).toInt ≤ 9999 := ma_1154 (i := x1) J47 (show 0 ≤ x1.toInt from by omega) (show x1.toInt < 40 from by omega)
          have u59 : (ps_a s47 1154 (Int32.toNatClampNeg x1)).toInt = (ps_a s 1154 (Int32.toNatClampNeg x1)).toInt := xeq (kp_a K47 1154 rfl _)
          have r60_k : 0 ≤ (ps_a s 1154 (Int32.toNatClampNeg x1)).toInt ∧ (ps_a s 1154 (Int32.toNatClampNeg x1)).toInt ≤ 9999 := ma_1154 (i := x1) J (show 0 ≤ x1.toInt from by omega) (show x1.toInt < 40 from by omega)
          refine pg_242_0 ?_
          have a61_k : ((41 : Int32) * (ps_a s47 1154 (Int32.toNatClampNeg x1))).toInt = (41 : Int) * (ps_a s47 1154 (Int32.toNatClampNeg x1)).toInt := xIm (show -2147483648 ≤ (41 : Int) * (ps_a s47 1154 (Int32.toNatClampNeg x1)).toInt from by omega) (show (41 : Int) * (ps_a s47 1154 (Int32.toNatClampNeg x1)).toInt < 2147483648 from by omega)
          have a62_k : ((0 : Int32) + ((41 : Int32) * (ps_a s47 1154 (Int32.toNatClampNeg x1)))).toInt = (0 : Int) + ((41 : Int32) * (ps_a s47 1154 (Int32.toNatClampNeg x1))).toInt := xIa (show -2147483648 ≤ (0 : Int) + ((41 : Int32) * (ps_a s47 1154 (Int32.toNatClampNeg x1))).toInt from by omega) (show (0 : Int) + ((41 : Int32) * (ps_a s47 1154 (Int32.toNatClampNeg x1))).toInt < 2147483648 from by omega)
          refine ms_230 J47 (show ((0 : Int32) + ((41 : Int32) * (ps_a s47 1154 (Int32.toNatClampNeg x1)))).toInt % 41 = 0 from by omega) (show 0 ≤ ((0 : Int32) + ((41 : Int32) * (ps_a s47 1154 (Int32.toNatClampNeg x1)))).toInt from by omega) (show ((0 : Int32) + ((41 : Int32) * (ps_a s47 1154 (Int32.toNatClampNeg x1)))).toInt < 27306 from by omega) (fun v63 b63 => ?_)
          refine And.intro (fun h64_k => ?_) (fun h64_k => ?_)
          · have f65_k : v63.toInt ≠ (0 : Int) := xne h64_k
            have r66_k := mf_51 J47
            have u67 : (ps_i s47 1131 51).toInt = (ps_i s 1131 51).toInt := xeq (kp_i K47 51 rfl)
            have r68_k : 0 ≤ (ps_a s47 1152 (Int32.toNatClampNeg x1)).toInt ∧ (ps_a s47 1152 (Int32.toNatClampNeg x1)).toInt ≤ 18 := ma_1152 (i := x1) J47 (show 0 ≤ x1.toInt from by omega) (show x1.toInt < 40 from by omega)
            have u69 : (ps_a s47 1152 (Int32.toNatClampNeg x1)).toInt = (ps_a s 1152 (Int32.toNatClampNeg x1)).toInt := xeq (kp_a K47 1152 rfl _)
            have r70_k : -1 ≤ (ps_a s47 1153 (Int32.toNatClampNeg x1)).toInt ∧ (ps_a s47 1153 (Int32.toNatClampNeg x1)).toInt ≤ 9999 := ma_1153 (i := x1) J47 (show 0 ≤ x1.toInt from by omega) (show x1.toInt < 40 from by omega)
            have u71 : (ps_a s47 1153 (Int32.toNatClampNeg x1)).toInt = (ps_a s 1153 (Int32.toNatClampNeg x1)).toInt := xeq (kp_a K47 1153 rfl _)
            exact ms_255_94 (x1 := x1) (σ := σ) k  ((0 : Int32) + ((41 : Int32) * (ps_a s 1153 (Int32.toNatClampNeg x1)))) v46 _ J47 K48 hS hC hA hO (show 0 ≤ x1.toInt from by omega) (show x1.toInt < 40 from by omega) (show (ps_i s 1131 51).toInt ≤ 100 from by omega) (show (ps_i s47 1131 51).toInt = (ps_i s 1131 51).toInt from by omega) (show (ps_a s47 1152 (Int32.toNatClampNeg x1)).toInt = 9 from by omega) (show ((0 : Int32) + ((41 : Int32) * (ps_a s 1153 (Int32.toNatClampNeg x1)))).toInt = 41 * (ps_a s47 1153 (Int32.toNatClampNeg x1)).toInt from by omega) ((by first | exact Or.inr ⟨p, q, (by rw [show ps_a s47 1134 = ps_a s 1134 from (KC.2 1134 rfl).1]; exact hl1), hp1, hp2, hv2⟩ | exact Or.inl (by first | rfl | omega)))
          · have f72_k : v63.toInt = (0 : Int) := xeq h64_k
            have r73_k := mf_51 J47
            have u74 : (ps_i s47 1131 51).toInt = (ps_i s 1131 51).toInt := xeq (kp_i K47 51 rfl)
            have r75_k : 0 ≤ (ps_a s47 1152 (Int32.toNatClampNeg x1)).toInt ∧ (ps_a s47 1152 (Int32.toNatClampNeg x1)).toInt ≤ 18 := ma_1152 (i := x1) J47 (show 0 ≤ x1.toInt from by omega) (show x1.toInt < 40 from by omega)
            have u76 : (ps_a s47 1152 (Int32.toNatClampNeg x1)).toInt = (ps_a s 1152 (Int32.toNatClampNeg x1)).toInt := xeq (kp_a K47 1152 rfl _)
            have r77_k : -1 ≤ (ps_a s47 1153 (Int32.toNatClampNeg x1)).toInt ∧ (ps_a s47 1153 (Int32.toNatClampNeg x1)).toInt ≤ 9999 := ma_1153 (i := x1) J47 (show 0 ≤ x1.toInt from by omega) (show x1.toInt < 40 from by omega)
            have u78 : (ps_a s47 1153 (Int32.toNatClampNeg x1)).toInt = (ps_a s 1153 (Int32.toNatClampNeg x1)).toInt := xeq (kp_a K47 1153 rfl _)
            exact ms_255_89 (x1 := x1) (σ := σ) k  ((0 : Int32) + ((41 : Int32) * (ps_a s 1153 (Int32.toNatClampNeg x1)))) v46 _ J47 K48 hS hC hA hO (show 0 ≤ x1.toInt from by omega) (show x1.toInt < 40 from by omega) (show (ps_i s 1131 51).toInt ≤ 100 from by omega) (show (ps_i s47 1131 51).toInt = (ps_i s 1131 51).toInt from by omega) (show (ps_a s47 1152 (Int32.toNatClampNeg x1)).toInt = 9 from by omega) (show ((0 : Int32) + ((41 : Int32) * (ps_a s 1153 (Int32.toNatClampNeg x1)))).toInt = 41 * (ps_a s47 1153 (Int32.toNatClampNeg x1)).toInt from by omega) ((by first | exact Or.inr ⟨p, q, (by rw [show ps_a s47 1134 = ps_a s 1134 from (KC.2 1134 rfl).1]; exact hl1), hp1, hp2, hv2⟩ | exact Or.inl (by first | rfl | omega)))
  · have f79_k : (ps_a s 1152 (Int32.toNatClampNeg x1)).toInt = (8 : Int) := xeq h8_k
    refine ms_256 J hS hC hA hM (show 0 ≤ x1.toInt from by omega) (show x1.toInt < 40 from by omega) (show (ps_i s 1131 51).toInt ≤ 100 from by omega) (show (ps_a s 1152 (Int32.toNatClampNeg x1)).toInt = 8 from by omega) (fun s80 J80 K80 p80_0 p80_1 p80_2 p80_3 p80_4 => ?_)
    have K81 := kpt K K80 rfl rfl
    have KC := K80
    have hS : Sg (ps_a s80 1135) (ps_a s80 1136) (ps_a s80 1138) (ps_a s80 1139) (ps_i s80 1131 21).toInt σ := by rw [show ps_a s80 1135 = ps_a s 1135 from (K80.2 1135 rfl).1, show ps_a s80 1136 = ps_a s 1136 from (K80.2 1136 rfl).1, show ps_a s80 1138 = ps_a s 1138 from (K80.2 1138 rfl).1, show ps_a s80 1139 = ps_a s 1139 from (K80.2 1139 rfl).1, show ps_i s80 1131 21 = ps_i s 1131 21 from kp_i K80 21 rfl]; exact hS
    have p80_2' : (ps_i s 1131 51).toInt ≤ (ps_i s80 1131 51).toInt := p80_2
    have r82_k := mf_51 J80
    have p80_3' : (ps_i s80 1131 51).toInt ≤ (ps_i s 1131 51).toInt + 36 := p80_3
    have hA : As σ (ps_a s80 1134) x1.toInt (ps_i s80 1131 51).toInt := p80_0
    have hO : OutB (ps_a s 1134) (ps_a s80 1134) x1.toInt := p80_1
    have hRs : Res σ (ps_a s80 1149) (ps_i s80 1131 34).toInt (ps_i s80 1131 50).toInt := p80_4
    exact k _ J80 K81 hA hO (show (ps_i s 1131 51).toInt ≤ (ps_i s80 1131 51).toInt from by omega) (show (ps_i s80 1131 51).toInt ≤ (ps_i s 1131 51).toInt + 36 from by omega) hRs
end
section
set_option maxRecDepth 100000
-- ProofBenchModel.takesOpen(I)V
theorem pg_258_0 {d : Nat} {x1 : Int32} {s : ps_S} {Q : Option Value → ps_S → Prop} (h :
  ps_Cl d 244 [.ref 1131, .int x1] s (ps_rI (fun v1 s1 =>
    ps_Cl d 247 [.ref 1131, .int v1] s1 (ps_rI (fun v2 s2 =>
      (v2 = 5 →
        ps_nd (pm_in x1 40) (ps_Cl d 223 [.ref 1131, .int v1, .int (ps_a s2 1156 (Int32.toNatClampNeg x1))] s2 (ps_rI (fun v3 s3 =>
          (v3 ≠ 0 →
            ps_At (d + 1) 258 53 [(0, .ref 1131), (1, .int x1), (2, .int v1)] [] s3 Q) ∧
          (v3 = 0 →
            ps_Cl d 245 [.ref 1131, .int x1] s3 (ps_rI (fun v4 s4 =>
              ps_nd (pm_in x1 40) (ps_Cl d 223 [.ref 1131, .int v4, .int (ps_a s4 1156 (Int32.toNatClampNeg x1))] s4 (ps_rI (fun v5 s5 =>
                (v5 = 0 →
                  ps_At (d + 1) 258 58 [(0, .ref 1131), (1, .int x1), (2, .int v1)] [] s5 Q) ∧
                (v5 ≠ 0 →
                  ps_At (d + 1) 258 53 [(0, .ref 1131), (1, .int x1), (2, .int v1)] [] s5 Q))))))))))) ∧
      (v2 ≠ 5 →
        ps_Cl d 241 [.ref 1131, .int 2] s2 (ps_rV (fun s6 =>
          Q none s6)))))))) : ps_At (d + 1) 258 0 [(0, .ref 1131), (1, .int x1)] [] s Q :=
  ps_wp_at (stops := [(53, [0, 1, 2]), (58, [0, 1, 2]), (72, [0, 1, 3])]) (n := 33) h rfl

theorem pg_258_53 {d : Nat} {x1 : Int32} {x2 : Int32} {s : ps_S} {Q : Option Value → ps_S → Prop} (h :
  ps_Cl d 241 [.ref 1131, .int 3] s (ps_rV (fun s1 =>
    ps_At (d + 1) 258 58 [(0, .ref 1131), (1, .int x1), (2, .int x2)] [] s1 Q))) : ps_At (d + 1) 258 53 [(0, .ref 1131), (1, .int x1), (2, .int x2)] [] s Q :=
  ps_wp_at (stops := [(53, [0, 1, 2]), (58, [0, 1, 2]), (72, [0, 1, 3])]) (n := 5) h rfl

theorem pg_258_58 {d : Nat} {x1 : Int32} {x2 : Int32} {s : ps_S} {Q : Option Value → ps_S → Prop} (h :
  ps_nd (pm_in x1 40) (ps_Cl d 231 [.ref 1131, .int x2, .int (-1), .int (ps_a s 1156 (Int32.toNatClampNeg x1))] s (ps_rV (fun s1 =>
    ps_At (d + 1) 258 72 [(0, .ref 1131), (1, .int x1), (3, .int 0)] [] s1 Q)))) : ps_At (d + 1) 258 58 [(0, .ref 1131), (1, .int x1), (2, .int x2)] [] s Q :=
  ps_wp_at (stops := [(53, [0, 1, 2]), (58, [0, 1, 2]), (72, [0, 1, 3])]) (n := 12) h rfl

theorem pg_258_72 {d : Nat} {x1 : Int32} {x3 : Int32} {s : ps_S} {Q : Option Value → ps_S → Prop} (h :
  ps_nd (pm_in x1 40) (ps_nd (pm_in (ps_a s 1154 (Int32.toNatClampNeg x1)) 41) (((ps_a s 1157 (Int32.toNatClampNeg (ps_a s 1154 (Int32.toNatClampNeg x1)))) ≤ x3 →
    ps_nd (pm_in x1 40) (ps_Cl d 249 [.ref 1131, .int x1, .int (ps_a s 1153 (Int32.toNatClampNeg x1)), .int 0] s (ps_rV (fun s1 =>
      ps_nd (pm_in x1 40) (ps_Cl d 249 [.ref 1131, .int x1, .int (ps_a s1 1154 (Int32.toNatClampNeg x1)), .int 1] s1 (ps_rV (fun s2 =>
        ps_Cl d 245 [.ref 1131, .int x1] (ps_ui s2 1131 34 0) (ps_rI (fun v3 s3 =>
          ps_Cl d 227 [.ref 1131, .int v3] s3 (ps_rV (fun s4 =>
            Q none s4))))))))))) ∧
  (x3 < (ps_a s 1157 (Int32.toNatClampNeg (ps_a s 1154 (Int32.toNatClampNeg x1)))) →
    ps_nd (pm_in x1 40) (ps_Cl d 243 [.int (ps_a s 1154 (Int32.toNatClampNeg x1)), .int x3] s (ps_rI (fun v5 s5 =>
      ps_Cl d 230 [.ref 1131, .int v5] s5 (ps_rI (fun v6 s6 =>
        (v6 ≠ 0 →
          ps_At (d + 1) 258 72 [(0, .ref 1131), (1, .int x1), (3, .int (x3 + 1))] [] s6 Q) ∧
        (v6 = 0 →
          ps_nd (pm_in x1 40) (ps_Cl d 223 [.ref 1131, .int v5, .int (ps_a s6 1156 (Int32.toNatClampNeg x1))] s6 (ps_rI (fun v7 s7 =>
            (v7 = 0 →
              ps_At (d + 1) 258 72 [(0, .ref 1131), (1, .int x1), (3, .int (x3 + 1))] [] s7 Q) ∧
            (v7 ≠ 0 →
              ps_Cl d 241 [.ref 1131, .int 3] s7 (ps_rV (fun s8 =>
                ps_At (d + 1) 258 72 [(0, .ref 1131), (1, .int x1), (3, .int (x3 + 1))] [] s8 Q)))))))))))))))) : ps_At (d + 1) 258 72 [(0, .ref 1131), (1, .int x1), (3, .int x3)] [] s Q :=
  ps_wp_at (stops := [(53, [0, 1, 2]), (58, [0, 1, 2]), (72, [0, 1, 3])]) (n := 64) h rfl

theorem ms_258_72 {x : Nat → Nat → Nat} {t : Int32} {d : Nat} {s0 : ps_S} {σ : mSig} {x1 : Int32} {Q : Option Value → ps_S → Prop} (k : ∀ (s' : ps_S), mJ x t s' → kp [1134, 1149, 1150] [34, 50, 51] s0 s' → (As σ (ps_a s' 1134) x1.toInt (ps_i s' 1131 51).toInt) → (OutB (ps_a s0 1134) (ps_a s' 1134) x1.toInt) → ((ps_i s0 1131 51).toInt ≤ (ps_i s' 1131 51).toInt) → ((ps_i s' 1131 51).toInt ≤ (ps_i s0 1131 51).toInt + 36) → (Res σ (ps_a s' 1149) (ps_i s' 1131 34).toInt (ps_i s' 1131 50).toInt) → Q none s') : ∀ (n : Nat) (x3 : Int32) (s : ps_S), (mJ x t s) → (kp [1134, 1149, 1150] [34, 50, 51] s0 s) → (Sg (ps_a s 1135) (ps_a s 1136) (ps_a s 1138) (ps_a s 1139) (ps_i s 1131 21).toInt σ) → (SC σ (ps_a s 1134) (ps_a s 1157) (ps_a s 1152) (ps_a s 1153) (ps_a s 1154) (ps_a s 1155) (ps_i s 1131 21).toInt x1.toInt) → (As σ (ps_a s 1134) x1.toInt (ps_i s 1131 51).toInt) → (OutB (ps_a s0 1134) (ps_a s 1134) x1.toInt) → (0 ≤ x1.toInt) → (x1.toInt < 40) → ((ps_i s0 1131 51).toInt ≤ 100) → ((ps_i s 1131 51).toInt = (ps_i s0 1131 51).toInt) → ((ps_a s 1152 (Int32.toNatClampNeg x1)).toInt = 14) → (0 ≤ x3.toInt) → (x3.toInt ≤ 12) → 20 - x3.toInt ≤ (n : Int) → ps_At (d + 4) 258 72 [(0, .ref 1131), (1, .int x1), (3, .int x3)] [] s Q := by
  refine xstr (fun n ih => ?_)
  intro x3 s J K hS hC hA hO i4_k i5_k i6_k i7_k i8_k i9_k i10_k hm
  have r1_k := mf_51 J
  have r2_k : 0 ≤ (ps_a s 1152 (Int32.toNatClampNeg x1)).toInt ∧ (ps_a s 1152 (Int32.toNatClampNeg x1)).toInt ≤ 18 := ma_1152 (i := x1) J (show 0 ≤ x1.toInt from by omega) (show x1.toInt < 40 from by omega)
  refine pg_258_72 (d := d + 3) ?_
  have q1_k := SC_l1 hC rfl ⟨by omega, by omega, by omega, by omega⟩
  have q2_k := SC_l2 hC rfl (by omega)
  obtain ⟨lb, hb1, hb2⟩ := SC_2i hC rfl (by omega)
  have hRb : Rw (ps_a s 1134) (41 * (ps_a s 1154 (Int32.toNatClampNeg x1)).toInt) lb := hb1
  have hlb := hb1.2.2.2.1
  have hgb := ma_1154 (i := x1) J (by omega) (by omega)
  have g0 := SC_g0 hC rfl
  refine ps_nd_i (show pm_in x1 40 = true from xgi (show 0 ≤ x1.toInt from by omega) (show x1.toInt < 40 from by omega)) ?_
  have r3_k : 0 ≤ (ps_a s 1154 (Int32.toNatClampNeg x1)).toInt ∧ (ps_a s 1154 (Int32.toNatClampNeg x1)).toInt ≤ 9999 := ma_1154 (i := x1) J (show 0 ≤ x1.toInt from by omega) (show x1.toInt < 40 from by omega)
  refine ps_nd_i (show pm_in (ps_a s 1154 (Int32.toNatClampNeg x1)) 41 = true from xgi (show 0 ≤ (ps_a s 1154 (Int32.toNatClampNeg x1)).toInt from by omega) (show (ps_a s 1154 (Int32.toNatClampNeg x1)).toInt < 41 from by omega)) ?_
  have r4_k : 0 ≤ (ps_a s 1157 (Int32.toNatClampNeg (ps_a s 1154 (Int32.toNatClampNeg x1)))).toInt ∧ (ps_a s 1157 (Int32.toNatClampNeg (ps_a s 1154 (Int32.toNatClampNeg x1)))).toInt ≤ 12 := ma_1157 (i := (ps_a s 1154 (Int32.toNatClampNeg x1))) J (show 0 ≤ (ps_a s 1154 (Int32.toNatClampNeg x1)).toInt from by omega) (show (ps_a s 1154 (Int32.toNatClampNeg x1)).toInt < 41 from by omega)
  refine And.intro (fun h5_k => ?_) (fun h5_k => ?_)
  · have f6_k : (ps_a s 1157 (Int32.toNatClampNeg (ps_a s 1154 (Int32.toNatClampNeg x1)))).toInt ≤ x3.toInt := xle h5_k
    refine ps_nd_i (show pm_in x1 40 = true from xgi (show 0 ≤ x1.toInt from by omega) (show x1.toInt < 40 from by omega)) ?_
    have r7_k : -1 ≤ (ps_a s 1153 (Int32.toNatClampNeg x1)).toInt ∧ (ps_a s 1153 (Int32.toNatClampNeg x1)).toInt ≤ 9999 := ma_1153 (i := x1) J (show 0 ≤ x1.toInt from by omega) (show x1.toInt < 40 from by omega)
    refine ms_249 J hA ((SC_p hC)) (show 0 ≤ x1.toInt from by omega) (show x1.toInt < 40 from by omega) (show 0 ≤ (ps_a s 1153 (Int32.toNatClampNeg x1)).toInt from by omega) (show (ps_a s 1153 (Int32.toNatClampNeg x1)).toInt < x1.toInt from by omega) (show (ps_i s 1131 51).toInt ≤ 800 from by omega) (fun s8 J8 K8 p8_0 p8_1 p8_2 p8_3 => ?_)
    have K9 := kpt K K8 rfl rfl
    have KC := K8
    have hS : Sg (ps_a s8 1135) (ps_a s8 1136) (ps_a s8 1138) (ps_a s8 1139) (ps_i s8 1131 21).toInt σ := by rw [show ps_a s8 1135 = ps_a s 1135 from (K8.2 1135 rfl).1, show ps_a s8 1136 = ps_a s 1136 from (K8.2 1136 rfl).1, show ps_a s8 1138 = ps_a s 1138 from (K8.2 1138 rfl).1, show ps_a s8 1139 = ps_a s 1139 from (K8.2 1139 rfl).1, show ps_i s8 1131 21 = ps_i s 1131 21 from kp_i K8 21 rfl]; exact hS
    have p8_2' : (ps_i s 1131 51).toInt ≤ (ps_i s8 1131 51).toInt := p8_2
    have r10_k := mf_51 J8
    have p8_3' : (ps_i s8 1131 51).toInt ≤ (ps_i s 1131 51).toInt + 12 := p8_3
    have hA : As σ (ps_a s8 1134) x1.toInt (ps_i s8 1131 51).toInt := p8_0
    have ho : _ := p8_1
    have hO := OutB_tr hO ho
    have hC : SC σ (ps_a s8 1134) (ps_a s8 1157) (ps_a s8 1152) (ps_a s8 1153) (ps_a s8 1154) (ps_a s8 1155) (ps_i s8 1131 21).toInt x1.toInt := by rw [show ps_a s8 1157 = ps_a s 1157 from (KC.2 1157 rfl).1, show ps_a s8 1152 = ps_a s 1152 from (KC.2 1152 rfl).1, show ps_a s8 1153 = ps_a s 1153 from (KC.2 1153 rfl).1, show ps_a s8 1154 = ps_a s 1154 from (KC.2 1154 rfl).1, show ps_a s8 1155 = ps_a s 1155 from (KC.2 1155 rfl).1, show ps_i s8 1131 21 = ps_i s 1131 21 from kp_i KC 21 rfl]; exact SC_out hC ho
    have hRb : Rw (ps_a s8 1134) (41 * (ps_a s 1154 (Int32.toNatClampNeg x1)).toInt) lb := Rw_out hRb ho (by omega)
    refine ps_nd_i (show pm_in x1 40 = true from xgi (show 0 ≤ x1.toInt from by omega) (show x1.toInt < 40 from by omega)) ?_
    have r11_k : 0 ≤ (ps_a s8 1154 (Int32.toNatClampNeg x1)).toInt ∧ (ps_a s8 1154 (Int32.toNatClampNeg x1)).toInt ≤ 9999 := ma_1154 (i := x1) J8 (show 0 ≤ x1.toInt from by omega) (show x1.toInt < 40 from by omega)
    have u12 : (ps_a s8 1154 (Int32.toNatClampNeg x1)).toInt = (ps_a s 1154 (Int32.toNatClampNeg x1)).toInt := xeq (kp_a K8 1154 rfl _)
    refine ms_249 J8 hA ((SC_p hC)) (show 0 ≤ x1.toInt from by omega) (show x1.toInt < 40 from by omega) (show 0 ≤ (ps_a s8 1154 (Int32.toNatClampNeg x1)).toInt from by omega) (show (ps_a s8 1154 (Int32.toNatClampNeg x1)).toInt < x1.toInt from by omega) (show (ps_i s8 1131 51).toInt ≤ 800 from by omega) (fun s13 J13 K13 p13_0 p13_1 p13_2 p13_3 => ?_)
    have K14 := kpt K9 K13 rfl rfl
    have KC := K13
    have hS : Sg (ps_a s13 1135) (ps_a s13 1136) (ps_a s13 1138) (ps_a s13 1139) (ps_i s13 1131 21).toInt σ := by rw [show ps_a s13 1135 = ps_a s8 1135 from (K13.2 1135 rfl).1, show ps_a s13 1136 = ps_a s8 1136 from (K13.2 1136 rfl).1, show ps_a s13 1138 = ps_a s8 1138 from (K13.2 1138 rfl).1, show ps_a s13 1139 = ps_a s8 1139 from (K13.2 1139 rfl).1, show ps_i s13 1131 21 = ps_i s8 1131 21 from kp_i K13 21 rfl]; exact hS
    have p13_2' : (ps_i s8 1131 51).toInt ≤ (ps_i s13 1131 51).toInt := p13_2
    have r15_k := mf_51 J13
    have p13_3' : (ps_i s13 1131 51).toInt ≤ (ps_i s8 1131 51).toInt + 12 := p13_3
    have hA : As σ (ps_a s13 1134) x1.toInt (ps_i s13 1131 51).toInt := p13_0
    have ho : _ := p13_1
    have hO := OutB_tr hO ho
    have hC : SC σ (ps_a s13 1134) (ps_a s13 1157) (ps_a s13 1152) (ps_a s13 1153) (ps_a s13 1154) (ps_a s13 1155) (ps_i s13 1131 21).toInt x1.toInt := by rw [show ps_a s13 1157 = ps_a s8 1157 from (KC.2 1157 rfl).1, show ps_a s13 1152 = ps_a s8 1152 from (KC.2 1152 rfl).1, show ps_a s13 1153 = ps_a s8 1153 from (KC.2 1153 rfl).1, show ps_a s13 1154 = ps_a s8 1154 from (KC.2 1154 rfl).1, show ps_a s13 1155 = ps_a s8 1155 from (KC.2 1155 rfl).1, show ps_i s13 1131 21 = ps_i s8 1131 21 from kp_i KC 21 rfl]; exact SC_out hC ho
    have hRb : Rw (ps_a s13 1134) (41 * (ps_a s 1154 (Int32.toNatClampNeg x1)).toInt) lb := Rw_out hRb ho (by omega)
    have J16 := mwi_34 (v := (0 : Int32)) J13 (show 0 ≤ (0 : Int) from by omega) (show (0 : Int) ≤ 100000 from by omega)
    have K17 := kpi K14 (q := 34) (v := (0 : Int32)) rfl
    have hM : Md (ps_a (ps_ui s13 1131 34 0) 1149) (ps_i (ps_ui s13 1131 34 0) 1131 34).toInt ([] : List Nat) := Md_nil rfl
    refine pg_245_0 ?_
    refine ps_nd_i (show pm_in x1 40 = true from xgi (show 0 ≤ x1.toInt from by omega) (show x1.toInt < 40 from by omega)) ?_
    have r18_k : 0 ≤ (ps_a s13 1154 (Int32.toNatClampNeg x1)).toInt ∧ (ps_a s13 1154 (Int32.toNatClampNeg x1)).toInt ≤ 9999 := ma_1154 (i := x1) J13 (show 0 ≤ x1.toInt from by omega) (show x1.toInt < 40 from by omega)
    have u19 : (ps_a s13 1154 (Int32.toNatClampNeg x1)).toInt = (ps_a s8 1154 (Int32.toNatClampNeg x1)).toInt := xeq (kp_a K13 1154 rfl _)
    refine pg_242_0 ?_
    have a20_k : ((41 : Int32) * (ps_a s13 1154 (Int32.toNatClampNeg x1))).toInt = (41 : Int) * (ps_a s13 1154 (Int32.toNatClampNeg x1)).toInt := xIm (show -2147483648 ≤ (41 : Int) * (ps_a s13 1154 (Int32.toNatClampNeg x1)).toInt from by omega) (show (41 : Int) * (ps_a s13 1154 (Int32.toNatClampNeg x1)).toInt < 2147483648 from by omega)
    have a21_k : ((0 : Int32) + ((41 : Int32) * (ps_a s13 1154 (Int32.toNatClampNeg x1)))).toInt = (0 : Int) + ((41 : Int32) * (ps_a s13 1154 (Int32.toNatClampNeg x1))).toInt := xIa (show -2147483648 ≤ (0 : Int) + ((41 : Int32) * (ps_a s13 1154 (Int32.toNatClampNeg x1))).toInt from by omega) (show (0 : Int) + ((41 : Int32) * (ps_a s13 1154 (Int32.toNatClampNeg x1))).toInt < 2147483648 from by omega)
    refine ms_227 J16 ((show Rw (ps_a (ps_ui s13 1131 34 0) 1134) (((0 : Int32) + ((41 : Int32) * (ps_a s13 1154 (Int32.toNatClampNeg x1))))).toInt lb from by rw [show (((0 : Int32) + ((41 : Int32) * (ps_a s13 1154 (Int32.toNatClampNeg x1))))).toInt = (41 * (ps_a s 1154 (Int32.toNatClampNeg x1)).toInt) from by omega]; exact hRb)) (hM) ((by rw [List.length_nil]; omega)) (fun s22 J22 K22 p22_0 => ?_)
    have K23 := kpt K17 K22 rfl rfl
    have KC := K22
    have hS : Sg (ps_a s22 1135) (ps_a s22 1136) (ps_a s22 1138) (ps_a s22 1139) (ps_i s22 1131 21).toInt σ := by rw [show ps_a s22 1135 = ps_a (ps_ui s13 1131 34 0) 1135 from (K22.2 1135 rfl).1, show ps_a s22 1136 = ps_a (ps_ui s13 1131 34 0) 1136 from (K22.2 1136 rfl).1, show ps_a s22 1138 = ps_a (ps_ui s13 1131 34 0) 1138 from (K22.2 1138 rfl).1, show ps_a s22 1139 = ps_a (ps_ui s13 1131 34 0) 1139 from (K22.2 1139 rfl).1, show ps_i s22 1131 21 = ps_i (ps_ui s13 1131 34 0) 1131 21 from kp_i K22 21 rfl]; exact hS
    have hA : As σ (ps_a s22 1134) x1.toInt (ps_i s22 1131 51).toInt := by rw [show ps_a s22 1134 = ps_a (ps_ui s13 1131 34 0) 1134 from (K22.2 1134 rfl).1, show ps_i s22 1131 51 = ps_i (ps_ui s13 1131 34 0) 1131 51 from kp_i K22 51 rfl]; exact hA
    have hO : OutB (ps_a s0 1134) (ps_a s22 1134) x1.toInt := by rw [show ps_a s22 1134 = ps_a (ps_ui s13 1131 34 0) 1134 from (K22.2 1134 rfl).1]; exact hO
    have hC : SC σ (ps_a s22 1134) (ps_a s22 1157) (ps_a s22 1152) (ps_a s22 1153) (ps_a s22 1154) (ps_a s22 1155) (ps_i s22 1131 21).toInt x1.toInt := by rw [show ps_a s22 1134 = ps_a (ps_ui s13 1131 34 0) 1134 from (K22.2 1134 rfl).1, show ps_a s22 1157 = ps_a (ps_ui s13 1131 34 0) 1157 from (K22.2 1157 rfl).1, show ps_a s22 1152 = ps_a (ps_ui s13 1131 34 0) 1152 from (K22.2 1152 rfl).1, show ps_a s22 1153 = ps_a (ps_ui s13 1131 34 0) 1153 from (K22.2 1153 rfl).1, show ps_a s22 1154 = ps_a (ps_ui s13 1131 34 0) 1154 from (K22.2 1154 rfl).1, show ps_a s22 1155 = ps_a (ps_ui s13 1131 34 0) 1155 from (K22.2 1155 rfl).1, show ps_i s22 1131 21 = ps_i (ps_ui s13 1131 34 0) 1131 21 from kp_i K22 21 rfl]; exact hC
    have hRb : Rw (ps_a s22 1134) (41 * (ps_a s 1154 (Int32.toNatClampNeg x1)).toInt) lb := by rw [show ps_a s22 1134 = ps_a (ps_ui s13 1131 34 0) 1134 from (K22.2 1134 rfl).1]; exact hRb
    have hM1 : Md (ps_a s22 1149) (ps_i s22 1131 34).toInt ([] ++ lb) := p22_0
    have r24_k := mf_51 J22
    have u25 : (ps_i s22 1131 51).toInt = (ps_i s13 1131 51).toInt := xeq (kp_i K22 51 rfl)
    exact k _ J22 K23 hA hO (show (ps_i s0 1131 51).toInt ≤ (ps_i s22 1131 51).toInt from by omega) (show (ps_i s22 1131 51).toInt ≤ (ps_i s0 1131 51).toInt + 36 from by omega) (⟨_, hM1, by simp only [List.length_append, List.length_cons, List.length_nil]; omega, Or.inl (wf_ws hb2)⟩)
  · have f26_k : x3.toInt < (ps_a s 1157 (Int32.toNatClampNeg (ps_a s 1154 (Int32.toNatClampNeg x1)))).toInt := xlt h5_k
    refine ps_nd_i (show pm_in x1 40 = true from xgi (show 0 ≤ x1.toInt from by omega) (show x1.toInt < 40 from by omega)) ?_
    refine pg_243_0 ?_
    have a27_k : ((12 : Int32) * (ps_a s 1154 (Int32.toNatClampNeg x1))).toInt = (12 : Int) * (ps_a s 1154 (Int32.toNatClampNeg x1)).toInt := xIm (show -2147483648 ≤ (12 : Int) * (ps_a s 1154 (Int32.toNatClampNeg x1)).toInt from by omega) (show (12 : Int) * (ps_a s 1154 (Int32.toNatClampNeg x1)).toInt < 2147483648 from by omega)
    have a28_k : (((12 : Int32) * (ps_a s 1154 (Int32.toNatClampNeg x1))) + x3).toInt = ((12 : Int32) * (ps_a s 1154 (Int32.toNatClampNeg x1))).toInt + x3.toInt := xIa (show -2147483648 ≤ ((12 : Int32) * (ps_a s 1154 (Int32.toNatClampNeg x1))).toInt + x3.toInt from by omega) (show ((12 : Int32) * (ps_a s 1154 (Int32.toNatClampNeg x1))).toInt + x3.toInt < 2147483648 from by omega)
    have a29_k : ((41 : Int32) * (((12 : Int32) * (ps_a s 1154 (Int32.toNatClampNeg x1))) + x3)).toInt = (41 : Int) * (((12 : Int32) * (ps_a s 1154 (Int32.toNatClampNeg x1))) + x3).toInt := xIm (show -2147483648 ≤ (41 : Int) * (((12 : Int32) * (ps_a s 1154 (Int32.toNatClampNeg x1))) + x3).toInt from by omega) (show (41 : Int) * (((12 : Int32) * (ps_a s 1154 (Int32.toNatClampNeg x1))) + x3).toInt < 2147483648 from by omega)
    have a30_k : ((1640 : Int32) + ((41 : Int32) * (((12 : Int32) * (ps_a s 1154 (Int32.toNatClampNeg x1))) + x3))).toInt = (1640 : Int) + ((41 : Int32) * (((12 : Int32) * (ps_a s 1154 (Int32.toNatClampNeg x1))) + x3)).toInt := xIa (show -2147483648 ≤ (1640 : Int) + ((41 : Int32) * (((12 : Int32) * (ps_a s 1154 (Int32.toNatClampNeg x1))) + x3)).toInt from by omega) (show (1640 : Int) + ((41 : Int32) * (((12 : Int32) * (ps_a s 1154 (Int32.toNatClampNeg x1))) + x3)).toInt < 2147483648 from by omega)
    obtain ⟨lr, hr1, hr2⟩ : Fm σ (ps_a s 1134) ((1640 : Int32) + ((41 : Int32) * (((12 : Int32) * (ps_a s 1154 (Int32.toNatClampNeg x1))) + x3))).toInt := by rw [show ((1640 : Int32) + ((41 : Int32) * (((12 : Int32) * (ps_a s 1154 (Int32.toNatClampNeg x1))) + x3))).toInt = 1640 + 41 * (12 * (((ps_a s 1154 (Int32.toNatClampNeg x1)).toInt.toNat : Nat) : Int) + ((x3.toInt.toNat : Nat) : Int)) from by omega]; exact ((SC_p hC) ((ps_a s 1154 (Int32.toNatClampNeg x1)).toInt).toNat (by omega)).2 (x3.toInt).toNat (by show ((x3.toInt.toNat : Nat) : Int) < (ps_a s 1157 (Int32.toNatClampNeg (ps_a s 1154 (Int32.toNatClampNeg x1)))).toInt; omega) (by omega)
    refine ms_230 J (show ((1640 : Int32) + ((41 : Int32) * (((12 : Int32) * (ps_a s 1154 (Int32.toNatClampNeg x1))) + x3))).toInt % 41 = 0 from by omega) (show 0 ≤ ((1640 : Int32) + ((41 : Int32) * (((12 : Int32) * (ps_a s 1154 (Int32.toNatClampNeg x1))) + x3))).toInt from by omega) (show ((1640 : Int32) + ((41 : Int32) * (((12 : Int32) * (ps_a s 1154 (Int32.toNatClampNeg x1))) + x3))).toInt < 27306 from by omega) (fun v31 b31 => ?_)
    refine And.intro (fun h32_k => ?_) (fun h32_k => ?_)
    · have f33_k : v31.toInt ≠ (0 : Int) := xne h32_k
      have a34_k : (x3 + 1).toInt = x3.toInt + (1 : Int) := xIa (show -2147483648 ≤ x3.toInt + (1 : Int) from by omega) (show x3.toInt + (1 : Int) < 2147483648 from by omega)
      exact ih (n - 1) (show n - 1 < n from by omega) (x3 + 1) _ J K hS hC hA hO (show 0 ≤ x1.toInt from by omega) (show x1.toInt < 40 from by omega) (show (ps_i s0 1131 51).toInt ≤ 100 from by omega) (show (ps_i s 1131 51).toInt = (ps_i s0 1131 51).toInt from by omega) (show (ps_a s 1152 (Int32.toNatClampNeg x1)).toInt = 14 from by omega) (show 0 ≤ (x3 + 1).toInt from by omega) (show (x3 + 1).toInt ≤ 12 from by omega) (show 20 - (x3 + 1).toInt ≤ ((n - 1 : Nat) : Int) from by omega)
    · have f35_k : v31.toInt = (0 : Int) := xeq h32_k
      refine ps_nd_i (show pm_in x1 40 = true from xgi (show 0 ≤ x1.toInt from by omega) (show x1.toInt < 40 from by omega)) ?_
      have r36_k : 0 ≤ (ps_a s 1156 (Int32.toNatClampNeg x1)).toInt ∧ (ps_a s 1156 (Int32.toNatClampNeg x1)).toInt ≤ 11 := ma_1156 (i := x1) J (show 0 ≤ x1.toInt from by omega) (show x1.toInt < 40 from by omega)
      refine ms_223 J (hr1) (show 0 ≤ (ps_a s 1156 (Int32.toNatClampNeg x1)).toInt from by omega) (show (ps_a s 1156 (Int32.toNatClampNeg x1)).toInt ≤ 11 from by omega) (fun v37 p37_0 b37 => ?_)
      refine And.intro (fun h38_k => ?_) (fun h38_k => ?_)
      · have f39_k : v37.toInt = (0 : Int) := xeq h38_k
        have a40_k : (x3 + 1).toInt = x3.toInt + (1 : Int) := xIa (show -2147483648 ≤ x3.toInt + (1 : Int) from by omega) (show x3.toInt + (1 : Int) < 2147483648 from by omega)
        exact ih (n - 1) (show n - 1 < n from by omega) (x3 + 1) _ J K hS hC hA hO (show 0 ≤ x1.toInt from by omega) (show x1.toInt < 40 from by omega) (show (ps_i s0 1131 51).toInt ≤ 100 from by omega) (show (ps_i s 1131 51).toInt = (ps_i s0 1131 51).toInt from by omega) (show (ps_a s 1152 (Int32.toNatClampNeg x1)).toInt = 14 from by omega) (show 0 ≤ (x3 + 1).toInt from by omega) (show (x3 + 1).toInt ≤ 12 from by omega) (show 20 - (x3 + 1).toInt ≤ ((n - 1 : Nat) : Int) from by omega)
      · have f41_k : v37.toInt ≠ (0 : Int) := xne h38_k
        refine ms_241 J (show 1 ≤ (3 : Int) from by omega) (show (3 : Int) ≤ 5 from by omega) (fun s42 J42 K42 p42_0 => ?_)
        have K43 := kpt K K42 rfl rfl
        have KC := K42
        have hS : Sg (ps_a s42 1135) (ps_a s42 1136) (ps_a s42 1138) (ps_a s42 1139) (ps_i s42 1131 21).toInt σ := by rw [show ps_a s42 1135 = ps_a s 1135 from (K42.2 1135 rfl).1, show ps_a s42 1136 = ps_a s 1136 from (K42.2 1136 rfl).1, show ps_a s42 1138 = ps_a s 1138 from (K42.2 1138 rfl).1, show ps_a s42 1139 = ps_a s 1139 from (K42.2 1139 rfl).1, show ps_i s42 1131 21 = ps_i s 1131 21 from kp_i K42 21 rfl]; exact hS
        have hC : SC σ (ps_a s42 1134) (ps_a s42 1157) (ps_a s42 1152) (ps_a s42 1153) (ps_a s42 1154) (ps_a s42 1155) (ps_i s42 1131 21).toInt x1.toInt := by rw [show ps_a s42 1134 = ps_a s 1134 from (K42.2 1134 rfl).1, show ps_a s42 1157 = ps_a s 1157 from (K42.2 1157 rfl).1, show ps_a s42 1152 = ps_a s 1152 from (K42.2 1152 rfl).1, show ps_a s42 1153 = ps_a s 1153 from (K42.2 1153 rfl).1, show ps_a s42 1154 = ps_a s 1154 from (K42.2 1154 rfl).1, show ps_a s42 1155 = ps_a s 1155 from (K42.2 1155 rfl).1, show ps_i s42 1131 21 = ps_i s 1131 21 from kp_i K42 21 rfl]; exact hC
        have hA : As σ (ps_a s42 1134) x1.toInt (ps_i s42 1131 51).toInt := by rw [show ps_a s42 1134 = ps_a s 1134 from (K42.2 1134 rfl).1, show ps_i s42 1131 51 = ps_i s 1131 51 from kp_i K42 51 rfl]; exact hA
        have hO : OutB (ps_a s0 1134) (ps_a s42 1134) x1.toInt := by rw [show ps_a s42 1134 = ps_a s 1134 from (K42.2 1134 rfl).1]; exact hO
        have hRb : Rw (ps_a s42 1134) (41 * (ps_a s 1154 (Int32.toNatClampNeg x1)).toInt) lb := by rw [show ps_a s42 1134 = ps_a s 1134 from (K42.2 1134 rfl).1]; exact hRb
        have p42_0' : 1 ≤ (ps_i s42 1131 50).toInt := p42_0
        have r44_k := mf_50 J42
        have a45_k : (x3 + 1).toInt = x3.toInt + (1 : Int) := xIa (show -2147483648 ≤ x3.toInt + (1 : Int) from by omega) (show x3.toInt + (1 : Int) < 2147483648 from by omega)
        have r46_k := mf_51 J42
        have u47 : (ps_i s42 1131 51).toInt = (ps_i s 1131 51).toInt := xeq (kp_i K42 51 rfl)
        have r48_k : 0 ≤ (ps_a s42 1152 (Int32.toNatClampNeg x1)).toInt ∧ (ps_a s42 1152 (Int32.toNatClampNeg x1)).toInt ≤ 18 := ma_1152 (i := x1) J42 (show 0 ≤ x1.toInt from by omega) (show x1.toInt < 40 from by omega)
        have u49 : (ps_a s42 1152 (Int32.toNatClampNeg x1)).toInt = (ps_a s 1152 (Int32.toNatClampNeg x1)).toInt := xeq (kp_a K42 1152 rfl _)
        exact ih (n - 1) (show n - 1 < n from by omega) (x3 + 1) _ J42 K43 hS hC hA hO (show 0 ≤ x1.toInt from by omega) (show x1.toInt < 40 from by omega) (show (ps_i s0 1131 51).toInt ≤ 100 from by omega) (show (ps_i s42 1131 51).toInt = (ps_i s0 1131 51).toInt from by omega) (show (ps_a s42 1152 (Int32.toNatClampNeg x1)).toInt = 14 from by omega) (show 0 ≤ (x3 + 1).toInt from by omega) (show (x3 + 1).toInt ≤ 12 from by omega) (show 20 - (x3 + 1).toInt ≤ ((n - 1 : Nat) : Int) from by omega)

theorem ms_258_58 {x : Nat → Nat → Nat} {t : Int32} {d : Nat} {s0 : ps_S} {σ : mSig} {x1 : Int32} {Q : Option Value → ps_S → Prop} (k : ∀ (s' : ps_S), mJ x t s' → kp [1134, 1149, 1150] [34, 50, 51] s0 s' → (As σ (ps_a s' 1134) x1.toInt (ps_i s' 1131 51).toInt) → (OutB (ps_a s0 1134) (ps_a s' 1134) x1.toInt) → ((ps_i s0 1131 51).toInt ≤ (ps_i s' 1131 51).toInt) → ((ps_i s' 1131 51).toInt ≤ (ps_i s0 1131 51).toInt + 36) → (Res σ (ps_a s' 1149) (ps_i s' 1131 34).toInt (ps_i s' 1131 50).toInt) → Q none s') (x2 : Int32) (s : ps_S) (J : mJ x t s) (K : kp [1134, 1149, 1150] [34, 50, 51] s0 s) (hS : Sg (ps_a s 1135) (ps_a s 1136) (ps_a s 1138) (ps_a s 1139) (ps_i s 1131 21).toInt σ) (hC : SC σ (ps_a s 1134) (ps_a s 1157) (ps_a s 1152) (ps_a s 1153) (ps_a s 1154) (ps_a s 1155) (ps_i s 1131 21).toInt x1.toInt) (hA : As σ (ps_a s 1134) x1.toInt (ps_i s 1131 51).toInt) (hO : OutB (ps_a s0 1134) (ps_a s 1134) x1.toInt) (hM : Md (ps_a s 1149) (ps_i s 1131 34).toInt ([] : List Nat)) (i5_k : 0 ≤ x1.toInt) (i6_k : x1.toInt < 40) (i7_k : (ps_i s0 1131 51).toInt ≤ 100) (i8_k : (ps_i s 1131 51).toInt = (ps_i s0 1131 51).toInt) (i9_k : (ps_a s 1152 (Int32.toNatClampNeg x1)).toInt = 14) (i10_k : x2.toInt = 41 * (ps_a s 1153 (Int32.toNatClampNeg x1)).toInt) (i11_k : (ps_a s 1134 (Int32.toNatClampNeg ((x2 + 1) + 0))).toInt = 5) : ps_At (d + 4) 258 58 [(0, .ref 1131), (1, .int x1), (2, .int x2)] [] s Q := by
  have r1_k := mf_51 J
  have r2_k : 0 ≤ (ps_a s 1152 (Int32.toNatClampNeg x1)).toInt ∧ (ps_a s 1152 (Int32.toNatClampNeg x1)).toInt ≤ 18 := ma_1152 (i := x1) J (show 0 ≤ x1.toInt from by omega) (show x1.toInt < 40 from by omega)
  have r3_k : -1 ≤ (ps_a s 1153 (Int32.toNatClampNeg x1)).toInt ∧ (ps_a s 1153 (Int32.toNatClampNeg x1)).toInt ≤ 9999 := ma_1153 (i := x1) J (show 0 ≤ x1.toInt from by omega) (show x1.toInt < 40 from by omega)
  refine pg_258_58 (d := d + 3) ?_
  obtain ⟨l, hl1, hl2⟩ := SC_1i hC rfl ⟨by omega, by omega, by omega, by omega⟩
  obtain ⟨c, l3, rfl⟩ := wf_ne hl2
  have hl1x : Rw (ps_a s 1134) x2.toInt (c :: l3) := by rw [show x2.toInt = (41 * (ps_a s 1153 (Int32.toNatClampNeg x1)).toInt) from by omega]; exact hl1
  have hp_k := Rw_p (l1 := []) (i := 0) hl1x rfl rfl
  have i11_k : (ps_a s 1134 (Int32.toNatClampNeg (x2 + 1 + 0))).toInt = (5 : Int) := i11_k
  have hc1 : c = 5 := by omega
  subst hc1
  obtain ⟨ks_k, hk_k, hw2⟩ := ws_hd (show ws σ (5 :: l3) [true] from wf_ws hl2)
  rw [kS_f1 (Or.inr rfl)] at hk_k
  cases hk_k
  refine ps_nd_i (show pm_in x1 40 = true from xgi (show 0 ≤ x1.toInt from by omega) (show x1.toInt < 40 from by omega)) ?_
  have r4_k : 0 ≤ (ps_a s 1156 (Int32.toNatClampNeg x1)).toInt ∧ (ps_a s 1156 (Int32.toNatClampNeg x1)).toInt ≤ 11 := ma_1156 (i := x1) J (show 0 ≤ x1.toInt from by omega) (show x1.toInt < 40 from by omega)
  refine ms_231 J hS (hl1x) ((Or.inl ⟨by decide, by omega, by omega⟩)) (hM) ((by decide)) ((show ws σ l3 [true] from hw2)) (fun s5 J5 K5 p5_0 => ?_)
  have K6 := kpt K K5 rfl rfl
  have KC := K5
  have hS : Sg (ps_a s5 1135) (ps_a s5 1136) (ps_a s5 1138) (ps_a s5 1139) (ps_i s5 1131 21).toInt σ := by rw [show ps_a s5 1135 = ps_a s 1135 from (K5.2 1135 rfl).1, show ps_a s5 1136 = ps_a s 1136 from (K5.2 1136 rfl).1, show ps_a s5 1138 = ps_a s 1138 from (K5.2 1138 rfl).1, show ps_a s5 1139 = ps_a s 1139 from (K5.2 1139 rfl).1, show ps_i s5 1131 21 = ps_i s 1131 21 from kp_i K5 21 rfl]; exact hS
  have hC : SC σ (ps_a s5 1134) (ps_a s5 1157) (ps_a s5 1152) (ps_a s5 1153) (ps_a s5 1154) (ps_a s5 1155) (ps_i s5 1131 21).toInt x1.toInt := by rw [show ps_a s5 1134 = ps_a s 1134 from (K5.2 1134 rfl).1, show ps_a s5 1157 = ps_a s 1157 from (K5.2 1157 rfl).1, show ps_a s5 1152 = ps_a s 1152 from (K5.2 1152 rfl).1, show ps_a s5 1153 = ps_a s 1153 from (K5.2 1153 rfl).1, show ps_a s5 1154 = ps_a s 1154 from (K5.2 1154 rfl).1, show ps_a s5 1155 = ps_a s 1155 from (K5.2 1155 rfl).1, show ps_i s5 1131 21 = ps_i s 1131 21 from kp_i K5 21 rfl]; exact hC
  have hA : As σ (ps_a s5 1134) x1.toInt (ps_i s5 1131 51).toInt := by rw [show ps_a s5 1134 = ps_a s 1134 from (K5.2 1134 rfl).1, show ps_i s5 1131 51 = ps_i s 1131 51 from kp_i K5 51 rfl]; exact hA
  have hO : OutB (ps_a s0 1134) (ps_a s5 1134) x1.toInt := by rw [show ps_a s5 1134 = ps_a s 1134 from (K5.2 1134 rfl).1]; exact hO
  have r7_k := mf_51 J5
  have u8 : (ps_i s5 1131 51).toInt = (ps_i s 1131 51).toInt := xeq (kp_i K5 51 rfl)
  have r9_k : 0 ≤ (ps_a s5 1152 (Int32.toNatClampNeg x1)).toInt ∧ (ps_a s5 1152 (Int32.toNatClampNeg x1)).toInt ≤ 18 := ma_1152 (i := x1) J5 (show 0 ≤ x1.toInt from by omega) (show x1.toInt < 40 from by omega)
  have u10 : (ps_a s5 1152 (Int32.toNatClampNeg x1)).toInt = (ps_a s 1152 (Int32.toNatClampNeg x1)).toInt := xeq (kp_a K5 1152 rfl _)
  exact ms_258_72 (x1 := x1) (σ := σ) k  (20 - (0 : Int)).toNat (0) _ J5 K6 hS hC hA hO (show 0 ≤ x1.toInt from by omega) (show x1.toInt < 40 from by omega) (show (ps_i s0 1131 51).toInt ≤ 100 from by omega) (show (ps_i s5 1131 51).toInt = (ps_i s0 1131 51).toInt from by omega) (show (ps_a s5 1152 (Int32.toNatClampNeg x1)).toInt = 14 from by omega) (show 0 ≤ (0 : Int) from by omega) (show (0 : Int) ≤ 12 from by omega) (show 20 - (0 : Int) ≤ (((20 - (0 : Int)).toNat : Nat) : Int) from by omega)

theorem ms_258_53 {x : Nat → Nat → Nat} {t : Int32} {d : Nat} {s0 : ps_S} {σ : mSig} {x1 : Int32} {Q : Option Value → ps_S → Prop} (k : ∀ (s' : ps_S), mJ x t s' → kp [1134, 1149, 1150] [34, 50, 51] s0 s' → (As σ (ps_a s' 1134) x1.toInt (ps_i s' 1131 51).toInt) → (OutB (ps_a s0 1134) (ps_a s' 1134) x1.toInt) → ((ps_i s0 1131 51).toInt ≤ (ps_i s' 1131 51).toInt) → ((ps_i s' 1131 51).toInt ≤ (ps_i s0 1131 51).toInt + 36) → (Res σ (ps_a s' 1149) (ps_i s' 1131 34).toInt (ps_i s' 1131 50).toInt) → Q none s') (x2 : Int32) (s : ps_S) (J : mJ x t s) (K : kp [1134, 1149, 1150] [34, 50, 51] s0 s) (hS : Sg (ps_a s 1135) (ps_a s 1136) (ps_a s 1138) (ps_a s 1139) (ps_i s 1131 21).toInt σ) (hC : SC σ (ps_a s 1134) (ps_a s 1157) (ps_a s 1152) (ps_a s 1153) (ps_a s 1154) (ps_a s 1155) (ps_i s 1131 21).toInt x1.toInt) (hA : As σ (ps_a s 1134) x1.toInt (ps_i s 1131 51).toInt) (hO : OutB (ps_a s0 1134) (ps_a s 1134) x1.toInt) (hM : Md (ps_a s 1149) (ps_i s 1131 34).toInt ([] : List Nat)) (i5_k : 0 ≤ x1.toInt) (i6_k : x1.toInt < 40) (i7_k : (ps_i s0 1131 51).toInt ≤ 100) (i8_k : (ps_i s 1131 51).toInt = (ps_i s0 1131 51).toInt) (i9_k : (ps_a s 1152 (Int32.toNatClampNeg x1)).toInt = 14) (i10_k : x2.toInt = 41 * (ps_a s 1153 (Int32.toNatClampNeg x1)).toInt) (i11_k : (ps_a s 1134 (Int32.toNatClampNeg ((x2 + 1) + 0))).toInt = 5) : ps_At (d + 4) 258 53 [(0, .ref 1131), (1, .int x1), (2, .int x2)] [] s Q := by
  have r1_k := mf_51 J
  have r2_k : 0 ≤ (ps_a s 1152 (Int32.toNatClampNeg x1)).toInt ∧ (ps_a s 1152 (Int32.toNatClampNeg x1)).toInt ≤ 18 := ma_1152 (i := x1) J (show 0 ≤ x1.toInt from by omega) (show x1.toInt < 40 from by omega)
  have r3_k : -1 ≤ (ps_a s 1153 (Int32.toNatClampNeg x1)).toInt ∧ (ps_a s 1153 (Int32.toNatClampNeg x1)).toInt ≤ 9999 := ma_1153 (i := x1) J (show 0 ≤ x1.toInt from by omega) (show x1.toInt < 40 from by omega)
  refine pg_258_53 (d := d + 3) ?_
  refine ms_241 J (show 1 ≤ (3 : Int) from by omega) (show (3 : Int) ≤ 5 from by omega) (fun s4 J4 K4 p4_0 => ?_)
  have K5 := kpt K K4 rfl rfl
  have KC := K4
  have hS : Sg (ps_a s4 1135) (ps_a s4 1136) (ps_a s4 1138) (ps_a s4 1139) (ps_i s4 1131 21).toInt σ := by rw [show ps_a s4 1135 = ps_a s 1135 from (K4.2 1135 rfl).1, show ps_a s4 1136 = ps_a s 1136 from (K4.2 1136 rfl).1, show ps_a s4 1138 = ps_a s 1138 from (K4.2 1138 rfl).1, show ps_a s4 1139 = ps_a s 1139 from (K4.2 1139 rfl).1, show ps_i s4 1131 21 = ps_i s 1131 21 from kp_i K4 21 rfl]; exact hS
  have hC : SC σ (ps_a s4 1134) (ps_a s4 1157) (ps_a s4 1152) (ps_a s4 1153) (ps_a s4 1154) (ps_a s4 1155) (ps_i s4 1131 21).toInt x1.toInt := by rw [show ps_a s4 1134 = ps_a s 1134 from (K4.2 1134 rfl).1, show ps_a s4 1157 = ps_a s 1157 from (K4.2 1157 rfl).1, show ps_a s4 1152 = ps_a s 1152 from (K4.2 1152 rfl).1, show ps_a s4 1153 = ps_a s 1153 from (K4.2 1153 rfl).1, show ps_a s4 1154 = ps_a s 1154 from (K4.2 1154 rfl).1, show ps_a s4 1155 = ps_a s 1155 from (K4.2 1155 rfl).1, show ps_i s4 1131 21 = ps_i s 1131 21 from kp_i K4 21 rfl]; exact hC
  have hA : As σ (ps_a s4 1134) x1.toInt (ps_i s4 1131 51).toInt := by rw [show ps_a s4 1134 = ps_a s 1134 from (K4.2 1134 rfl).1, show ps_i s4 1131 51 = ps_i s 1131 51 from kp_i K4 51 rfl]; exact hA
  have hO : OutB (ps_a s0 1134) (ps_a s4 1134) x1.toInt := by rw [show ps_a s4 1134 = ps_a s 1134 from (K4.2 1134 rfl).1]; exact hO
  have hM : Md (ps_a s4 1149) (ps_i s4 1131 34).toInt ([] : List Nat) := by rw [show ps_a s4 1149 = ps_a s 1149 from (K4.2 1149 rfl).1, show ps_i s4 1131 34 = ps_i s 1131 34 from kp_i K4 34 rfl]; exact hM
  have p4_0' : 1 ≤ (ps_i s4 1131 50).toInt := p4_0
  have r6_k := mf_50 J4
  have r7_k := mf_51 J4
  have u8 : (ps_i s4 1131 51).toInt = (ps_i s 1131 51).toInt := xeq (kp_i K4 51 rfl)
  have r9_k : 0 ≤ (ps_a s4 1152 (Int32.toNatClampNeg x1)).toInt ∧ (ps_a s4 1152 (Int32.toNatClampNeg x1)).toInt ≤ 18 := ma_1152 (i := x1) J4 (show 0 ≤ x1.toInt from by omega) (show x1.toInt < 40 from by omega)
  have u10 : (ps_a s4 1152 (Int32.toNatClampNeg x1)).toInt = (ps_a s 1152 (Int32.toNatClampNeg x1)).toInt := xeq (kp_a K4 1152 rfl _)
  have r11_k : -1 ≤ (ps_a s4 1153 (Int32.toNatClampNeg x1)).toInt ∧ (ps_a s4 1153 (Int32.toNatClampNeg x1)).toInt ≤ 9999 := ma_1153 (i := x1) J4 (show 0 ≤ x1.toInt from by omega) (show x1.toInt < 40 from by omega)
  have u12 : (ps_a s4 1153 (Int32.toNatClampNeg x1)).toInt = (ps_a s 1153 (Int32.toNatClampNeg x1)).toInt := xeq (kp_a K4 1153 rfl _)
  exact ms_258_58 (x1 := x1) (σ := σ) k  x2 _ J4 K5 hS hC hA hO hM (show 0 ≤ x1.toInt from by omega) (show x1.toInt < 40 from by omega) (show (ps_i s0 1131 51).toInt ≤ 100 from by omega) (show (ps_i s4 1131 51).toInt = (ps_i s0 1131 51).toInt from by omega) (show (ps_a s4 1152 (Int32.toNatClampNeg x1)).toInt = 14 from by omega) (show x2.toInt = 41 * (ps_a s4 1153 (Int32.toNatClampNeg x1)).toInt from by omega) ((by rw [show ps_a s4 1134 = ps_a s 1134 from (KC.2 1134 rfl).1]; exact i11_k))

theorem ms_258 {x : Nat → Nat → Nat} {t : Int32} {s : ps_S} {d : Nat} {x1 : Int32} {f : ps_S → Prop} (J : mJ x t s) {σ : mSig} (hS : Sg (ps_a s 1135) (ps_a s 1136) (ps_a s 1138) (ps_a s 1139) (ps_i s 1131 21).toInt σ) (hC : SC σ (ps_a s 1134) (ps_a s 1157) (ps_a s 1152) (ps_a s 1153) (ps_a s 1154) (ps_a s 1155) (ps_i s 1131 21).toInt x1.toInt) (hA : As σ (ps_a s 1134) x1.toInt (ps_i s 1131 51).toInt) (hM : Md (ps_a s 1149) (ps_i s 1131 34).toInt ([] : List Nat)) (q4_k : 0 ≤ x1.toInt) (q5_k : x1.toInt < 40) (q6_k : (ps_i s 1131 51).toInt ≤ 100) (q7_k : (ps_a s 1152 (Int32.toNatClampNeg x1)).toInt = 14) (k : ∀ (s' : ps_S), mJ x t s' → kp [1134, 1149, 1150] [34, 50, 51] s s' → (As σ (ps_a s' 1134) x1.toInt (ps_i s' 1131 51).toInt) → (OutB (ps_a s 1134) (ps_a s' 1134) x1.toInt) → ((ps_i s 1131 51).toInt ≤ (ps_i s' 1131 51).toInt) → ((ps_i s' 1131 51).toInt ≤ (ps_i s 1131 51).toInt + 36) → (Res σ (ps_a s' 1149) (ps_i s' 1131 34).toInt (ps_i s' 1131 50).toInt) → f s') : ps_Cl (d + 4) 258 [.ref 1131, .int x1] s (ps_rV f) := by
  have r1_k := mf_51 J
  have r2_k : 0 ≤ (ps_a s 1152 (Int32.toNatClampNeg x1)).toInt ∧ (ps_a s 1152 (Int32.toNatClampNeg x1)).toInt ≤ 18 := ma_1152 (i := x1) J (show 0 ≤ x1.toInt from by omega) (show x1.toInt < 40 from by omega)
  have K : kp [1134, 1149, 1150] [34, 50, 51] s s := kp_refl
  refine pg_258_0 (d := d + 3) ?_
  have hO : OutB (ps_a s 1134) (ps_a s 1134) x1.toInt := OutB_refl
  have q1_k := SC_l1 hC rfl ⟨by omega, by omega, by omega, by omega⟩
  have q2_k := SC_l2 hC rfl (by omega)
  obtain ⟨lb, hb1, hb2⟩ := SC_2i hC rfl (by omega)
  refine pg_244_0 ?_
  refine ps_nd_i (show pm_in x1 40 = true from xgi (show 0 ≤ x1.toInt from by omega) (show x1.toInt < 40 from by omega)) ?_
  have r3_k : -1 ≤ (ps_a s 1153 (Int32.toNatClampNeg x1)).toInt ∧ (ps_a s 1153 (Int32.toNatClampNeg x1)).toInt ≤ 9999 := ma_1153 (i := x1) J (show 0 ≤ x1.toInt from by omega) (show x1.toInt < 40 from by omega)
  refine pg_242_0 ?_
  have a4_k : ((41 : Int32) * (ps_a s 1153 (Int32.toNatClampNeg x1))).toInt = (41 : Int) * (ps_a s 1153 (Int32.toNatClampNeg x1)).toInt := xIm (show -2147483648 ≤ (41 : Int) * (ps_a s 1153 (Int32.toNatClampNeg x1)).toInt from by omega) (show (41 : Int) * (ps_a s 1153 (Int32.toNatClampNeg x1)).toInt < 2147483648 from by omega)
  have a5_k : ((0 : Int32) + ((41 : Int32) * (ps_a s 1153 (Int32.toNatClampNeg x1)))).toInt = (0 : Int) + ((41 : Int32) * (ps_a s 1153 (Int32.toNatClampNeg x1))).toInt := xIa (show -2147483648 ≤ (0 : Int) + ((41 : Int32) * (ps_a s 1153 (Int32.toNatClampNeg x1))).toInt from by omega) (show (0 : Int) + ((41 : Int32) * (ps_a s 1153 (Int32.toNatClampNeg x1))).toInt < 2147483648 from by omega)
  obtain ⟨l, hl1, hl2⟩ := SC_1i hC rfl ⟨by omega, by omega, by omega, by omega⟩
  have hl1 : Rw (ps_a s 1134) (((0 : Int32) + ((41 : Int32) * (ps_a s 1153 (Int32.toNatClampNeg x1))))).toInt l := by rw [show (((0 : Int32) + ((41 : Int32) * (ps_a s 1153 (Int32.toNatClampNeg x1))))).toInt = 41 * (ps_a s 1153 (Int32.toNatClampNeg x1)).toInt from by omega]; exact hl1
  obtain ⟨c, l3, rfl⟩ := wf_ne hl2
  have hp_k := Rw_p (l1 := []) (i := 0) hl1 rfl rfl
  have w1 := hl1.1
  have w2 := hl1.2.1
  have w3 := hl1.2.2.1
  refine pg_247_0 ?_
  refine pg_220_0 ?_
  have a6_k : (((0 : Int32) + ((41 : Int32) * (ps_a s 1153 (Int32.toNatClampNeg x1)))) + 1).toInt = ((0 : Int32) + ((41 : Int32) * (ps_a s 1153 (Int32.toNatClampNeg x1)))).toInt + (1 : Int) := xIa (show -2147483648 ≤ ((0 : Int32) + ((41 : Int32) * (ps_a s 1153 (Int32.toNatClampNeg x1)))).toInt + (1 : Int) from by omega) (show ((0 : Int32) + ((41 : Int32) * (ps_a s 1153 (Int32.toNatClampNeg x1)))).toInt + (1 : Int) < 2147483648 from by omega)
  have a7_k : ((((0 : Int32) + ((41 : Int32) * (ps_a s 1153 (Int32.toNatClampNeg x1)))) + 1) + 0).toInt = (((0 : Int32) + ((41 : Int32) * (ps_a s 1153 (Int32.toNatClampNeg x1)))) + 1).toInt + (0 : Int) := xIa (show -2147483648 ≤ (((0 : Int32) + ((41 : Int32) * (ps_a s 1153 (Int32.toNatClampNeg x1)))) + 1).toInt + (0 : Int) from by omega) (show (((0 : Int32) + ((41 : Int32) * (ps_a s 1153 (Int32.toNatClampNeg x1)))) + 1).toInt + (0 : Int) < 2147483648 from by omega)
  refine ps_nd_i (show pm_in ((((0 : Int32) + ((41 : Int32) * (ps_a s 1153 (Int32.toNatClampNeg x1)))) + 1) + 0) 27400 = true from xgi (show 0 ≤ ((((0 : Int32) + ((41 : Int32) * (ps_a s 1153 (Int32.toNatClampNeg x1)))) + 1) + 0).toInt from by omega) (show ((((0 : Int32) + ((41 : Int32) * (ps_a s 1153 (Int32.toNatClampNeg x1)))) + 1) + 0).toInt < 27400 from by omega)) ?_
  have r8_k : ((((0 : Int32) + ((41 : Int32) * (ps_a s 1153 (Int32.toNatClampNeg x1)))) + 1) + 0).toInt % 41 = 0 → ((((0 : Int32) + ((41 : Int32) * (ps_a s 1153 (Int32.toNatClampNeg x1)))) + 1) + 0).toInt < 27306 → 0 ≤ (ps_a s 1134 (Int32.toNatClampNeg ((((0 : Int32) + ((41 : Int32) * (ps_a s 1153 (Int32.toNatClampNeg x1)))) + 1) + 0))).toInt ∧ (ps_a s 1134 (Int32.toNatClampNeg ((((0 : Int32) + ((41 : Int32) * (ps_a s 1153 (Int32.toNatClampNeg x1)))) + 1) + 0))).toInt ≤ 40 := fun z1_k z2_k => mp_row (i := ((((0 : Int32) + ((41 : Int32) * (ps_a s 1153 (Int32.toNatClampNeg x1)))) + 1) + 0)) J z1_k (show 0 ≤ ((((0 : Int32) + ((41 : Int32) * (ps_a s 1153 (Int32.toNatClampNeg x1)))) + 1) + 0).toInt from by omega) z2_k
  refine And.intro (fun h9_k => ?_) (fun h9_k => ?_)
  · have f10_k : (ps_a s 1134 (Int32.toNatClampNeg ((((0 : Int32) + ((41 : Int32) * (ps_a s 1153 (Int32.toNatClampNeg x1)))) + 1) + 0))).toInt = (5 : Int) := xeq h9_k
    refine ps_nd_i (show pm_in x1 40 = true from xgi (show 0 ≤ x1.toInt from by omega) (show x1.toInt < 40 from by omega)) ?_
    have r11_k : 0 ≤ (ps_a s 1156 (Int32.toNatClampNeg x1)).toInt ∧ (ps_a s 1156 (Int32.toNatClampNeg x1)).toInt ≤ 11 := ma_1156 (i := x1) J (show 0 ≤ x1.toInt from by omega) (show x1.toInt < 40 from by omega)
    refine ms_223 J (hl1) (show 0 ≤ (ps_a s 1156 (Int32.toNatClampNeg x1)).toInt from by omega) (show (ps_a s 1156 (Int32.toNatClampNeg x1)).toInt ≤ 11 from by omega) (fun v12 p12_0 b12 => ?_)
    refine And.intro (fun h13_k => ?_) (fun h13_k => ?_)
    · have f14_k : v12.toInt ≠ (0 : Int) := xne h13_k
      exact ms_258_53 (x1 := x1) (σ := σ) k  ((0 : Int32) + ((41 : Int32) * (ps_a s 1153 (Int32.toNatClampNeg x1)))) _ J K hS hC hA hO hM (show 0 ≤ x1.toInt from by omega) (show x1.toInt < 40 from by omega) (show (ps_i s 1131 51).toInt ≤ 100 from by omega) (show (ps_i s 1131 51).toInt = (ps_i s 1131 51).toInt from by omega) (show (ps_a s 1152 (Int32.toNatClampNeg x1)).toInt = 14 from by omega) (show ((0 : Int32) + ((41 : Int32) * (ps_a s 1153 (Int32.toNatClampNeg x1)))).toInt = 41 * (ps_a s 1153 (Int32.toNatClampNeg x1)).toInt from by omega) ((show (ps_a s 1134 (Int32.toNatClampNeg (((0 : Int32) + ((41 : Int32) * (ps_a s 1153 (Int32.toNatClampNeg x1)))) + 1 + 0))).toInt = 5 from by omega))
    · have f15_k : v12.toInt = (0 : Int) := xeq h13_k
      refine pg_245_0 ?_
      refine ps_nd_i (show pm_in x1 40 = true from xgi (show 0 ≤ x1.toInt from by omega) (show x1.toInt < 40 from by omega)) ?_
      have r16_k : 0 ≤ (ps_a s 1154 (Int32.toNatClampNeg x1)).toInt ∧ (ps_a s 1154 (Int32.toNatClampNeg x1)).toInt ≤ 9999 := ma_1154 (i := x1) J (show 0 ≤ x1.toInt from by omega) (show x1.toInt < 40 from by omega)
      refine pg_242_0 ?_
      have a17_k : ((41 : Int32) * (ps_a s 1154 (Int32.toNatClampNeg x1))).toInt = (41 : Int) * (ps_a s 1154 (Int32.toNatClampNeg x1)).toInt := xIm (show -2147483648 ≤ (41 : Int) * (ps_a s 1154 (Int32.toNatClampNeg x1)).toInt from by omega) (show (41 : Int) * (ps_a s 1154 (Int32.toNatClampNeg x1)).toInt < 2147483648 from by omega)
      have a18_k : ((0 : Int32) + ((41 : Int32) * (ps_a s 1154 (Int32.toNatClampNeg x1)))).toInt = (0 : Int) + ((41 : Int32) * (ps_a s 1154 (Int32.toNatClampNeg x1))).toInt := xIa (show -2147483648 ≤ (0 : Int) + ((41 : Int32) * (ps_a s 1154 (Int32.toNatClampNeg x1))).toInt from by omega) (show (0 : Int) + ((41 : Int32) * (ps_a s 1154 (Int32.toNatClampNeg x1))).toInt < 2147483648 from by omega)
      refine ps_nd_i (show pm_in x1 40 = true from xgi (show 0 ≤ x1.toInt from by omega) (show x1.toInt < 40 from by omega)) ?_
      refine ms_223 J ((show Rw (ps_a s 1134) (((0 : Int32) + ((41 : Int32) * (ps_a s 1154 (Int32.toNatClampNeg x1))))).toInt lb from by rw [show (((0 : Int32) + ((41 : Int32) * (ps_a s 1154 (Int32.toNatClampNeg x1))))).toInt = (41 * (ps_a s 1154 (Int32.toNatClampNeg x1)).toInt) from by omega]; exact hb1)) (show 0 ≤ (ps_a s 1156 (Int32.toNatClampNeg x1)).toInt from by omega) (show (ps_a s 1156 (Int32.toNatClampNeg x1)).toInt ≤ 11 from by omega) (fun v19 p19_0 b19 => ?_)
      refine And.intro (fun h20_k => ?_) (fun h20_k => ?_)
      · have f21_k : v19.toInt = (0 : Int) := xeq h20_k
        exact ms_258_58 (x1 := x1) (σ := σ) k  ((0 : Int32) + ((41 : Int32) * (ps_a s 1153 (Int32.toNatClampNeg x1)))) _ J K hS hC hA hO hM (show 0 ≤ x1.toInt from by omega) (show x1.toInt < 40 from by omega) (show (ps_i s 1131 51).toInt ≤ 100 from by omega) (show (ps_i s 1131 51).toInt = (ps_i s 1131 51).toInt from by omega) (show (ps_a s 1152 (Int32.toNatClampNeg x1)).toInt = 14 from by omega) (show ((0 : Int32) + ((41 : Int32) * (ps_a s 1153 (Int32.toNatClampNeg x1)))).toInt = 41 * (ps_a s 1153 (Int32.toNatClampNeg x1)).toInt from by omega) ((show (ps_a s 1134 (Int32.toNatClampNeg (((0 : Int32) + ((41 : Int32) * (ps_a s 1153 (Int32.toNatClampNeg x1)))) + 1 + 0))).toInt = 5 from by omega))
      · have f22_k : v19.toInt ≠ (0 : Int) := xne h20_k
        exact ms_258_53 (x1 := x1) (σ := σ) k  ((0 : Int32) + ((41 : Int32) * (ps_a s 1153 (Int32.toNatClampNeg x1)))) _ J K hS hC hA hO hM (show 0 ≤ x1.toInt from by omega) (show x1.toInt < 40 from by omega) (show (ps_i s 1131 51).toInt ≤ 100 from by omega) (show (ps_i s 1131 51).toInt = (ps_i s 1131 51).toInt from by omega) (show (ps_a s 1152 (Int32.toNatClampNeg x1)).toInt = 14 from by omega) (show ((0 : Int32) + ((41 : Int32) * (ps_a s 1153 (Int32.toNatClampNeg x1)))).toInt = 41 * (ps_a s 1153 (Int32.toNatClampNeg x1)).toInt from by omega) ((show (ps_a s 1134 (Int32.toNatClampNeg (((0 : Int32) + ((41 : Int32) * (ps_a s 1153 (Int32.toNatClampNeg x1)))) + 1 + 0))).toInt = 5 from by omega))
  · have f23_k : (ps_a s 1134 (Int32.toNatClampNeg ((((0 : Int32) + ((41 : Int32) * (ps_a s 1153 (Int32.toNatClampNeg x1)))) + 1) + 0))).toInt ≠ (5 : Int) := xne h9_k
    refine ms_241 J (show 1 ≤ (2 : Int) from by omega) (show (2 : Int) ≤ 5 from by omega) (fun s24 J24 K24 p24_0 => ?_)
    have K25 := kpt K K24 rfl rfl
    have KC := K24
    have hS : Sg (ps_a s24 1135) (ps_a s24 1136) (ps_a s24 1138) (ps_a s24 1139) (ps_i s24 1131 21).toInt σ := by rw [show ps_a s24 1135 = ps_a s 1135 from (K24.2 1135 rfl).1, show ps_a s24 1136 = ps_a s 1136 from (K24.2 1136 rfl).1, show ps_a s24 1138 = ps_a s 1138 from (K24.2 1138 rfl).1, show ps_a s24 1139 = ps_a s 1139 from (K24.2 1139 rfl).1, show ps_i s24 1131 21 = ps_i s 1131 21 from kp_i K24 21 rfl]; exact hS
    have hC : SC σ (ps_a s24 1134) (ps_a s24 1157) (ps_a s24 1152) (ps_a s24 1153) (ps_a s24 1154) (ps_a s24 1155) (ps_i s24 1131 21).toInt x1.toInt := by rw [show ps_a s24 1134 = ps_a s 1134 from (K24.2 1134 rfl).1, show ps_a s24 1157 = ps_a s 1157 from (K24.2 1157 rfl).1, show ps_a s24 1152 = ps_a s 1152 from (K24.2 1152 rfl).1, show ps_a s24 1153 = ps_a s 1153 from (K24.2 1153 rfl).1, show ps_a s24 1154 = ps_a s 1154 from (K24.2 1154 rfl).1, show ps_a s24 1155 = ps_a s 1155 from (K24.2 1155 rfl).1, show ps_i s24 1131 21 = ps_i s 1131 21 from kp_i K24 21 rfl]; exact hC
    have hA : As σ (ps_a s24 1134) x1.toInt (ps_i s24 1131 51).toInt := by rw [show ps_a s24 1134 = ps_a s 1134 from (K24.2 1134 rfl).1, show ps_i s24 1131 51 = ps_i s 1131 51 from kp_i K24 51 rfl]; exact hA
    have hM : Md (ps_a s24 1149) (ps_i s24 1131 34).toInt ([] : List Nat) := by rw [show ps_a s24 1149 = ps_a s 1149 from (K24.2 1149 rfl).1, show ps_i s24 1131 34 = ps_i s 1131 34 from kp_i K24 34 rfl]; exact hM
    have hO : OutB (ps_a s 1134) (ps_a s24 1134) x1.toInt := by rw [show ps_a s24 1134 = ps_a s 1134 from (K24.2 1134 rfl).1]; exact hO
    have p24_0' : 1 ≤ (ps_i s24 1131 50).toInt := p24_0
    have r26_k := mf_50 J24
    have r27_k := mf_51 J24
    have u28 : (ps_i s24 1131 51).toInt = (ps_i s 1131 51).toInt := xeq (kp_i K24 51 rfl)
    exact k _ J24 K25 hA hO (show (ps_i s 1131 51).toInt ≤ (ps_i s24 1131 51).toInt from by omega) (show (ps_i s24 1131 51).toInt ≤ (ps_i s 1131 51).toInt + 36 from by omega) (⟨[], hM, by decide, Or.inr ⟨rfl, show 1 ≤ (ps_i s24 1131 50).toInt from by omega⟩⟩)
end
section
set_option maxRecDepth 100000
-- ProofBenchModel.takesBound(I)V
theorem pg_257_0 {d : Nat} {x1 : Int32} {s : ps_S} {Q : Option Value → ps_S → Prop} (h :
  ps_Cl d 244 [.ref 1131, .int x1] s (ps_rI (fun v1 s1 =>
    ps_nd (pm_in x1 40) (((ps_a s1 1152 (Int32.toNatClampNeg x1)) = 11 →
      ps_At (d + 1) 257 67 [(0, .ref 1131), (1, .int x1), (2, .int v1), (5, .int 0)] [] s1 Q) ∧
    ((ps_a s1 1152 (Int32.toNatClampNeg x1)) ≠ 11 →
      ((ps_a s1 1152 (Int32.toNatClampNeg x1)) = 12 →
      ps_Cl d 247 [.ref 1131, .int v1] s1 (ps_rI (fun v2 s2 =>
        (v2 = 4 →
          ps_Cl d 231 [.ref 1131, .int v1, .int ((24108 : Int32) + ((41 : Int32) * x1)), .int (-1)] s2 (ps_rV (fun s3 =>
            ps_At (d + 1) 257 281 [(0, .ref 1131), (1, .int x1)] [] s3 Q))) ∧
        (v2 ≠ 4 →
          ps_Cl d 241 [.ref 1131, .int 2] s2 (ps_rV (fun s4 =>
            ps_At (d + 1) 257 281 [(0, .ref 1131), (1, .int x1)] [] s4 Q)))))) ∧
    ((ps_a s1 1152 (Int32.toNatClampNeg x1)) ≠ 12 →
      ((ps_a s1 1152 (Int32.toNatClampNeg x1)) = 13 →
      ps_Cl d 247 [.ref 1131, .int ((22468 : Int32) + ((41 : Int32) * x1))] s1 (ps_rI (fun v5 s5 =>
        (v5 ≠ 5 →
          ps_At (d + 1) 257 177 [(0, .ref 1131), (1, .int x1), (2, .int v1), (4, .int ((22468 : Int32) + ((41 : Int32) * x1)))] [] s5 Q) ∧
        (v5 = 5 →
          ps_Cl d 231 [.ref 1131, .int ((22468 : Int32) + ((41 : Int32) * x1)), .int ((24108 : Int32) + ((41 : Int32) * x1)), .int (-1)] s5 (ps_rV (fun s6 =>
            ps_At (d + 1) 257 177 [(0, .ref 1131), (1, .int x1), (2, .int v1), (4, .int ((22468 : Int32) + ((41 : Int32) * x1)))] [] s6 Q)))))) ∧
    ((ps_a s1 1152 (Int32.toNatClampNeg x1)) ≠ 13 →
      ((ps_a s1 1152 (Int32.toNatClampNeg x1)) = 14 →
      ps_Cl d 258 [.ref 1131, .int x1] s1 (ps_rV (fun s7 =>
        Q none s7))) ∧
    ((ps_a s1 1152 (Int32.toNatClampNeg x1)) ≠ 14 →
      ((ps_a s1 1152 (Int32.toNatClampNeg x1)) = 15 →
      ps_Cl d 225 [.ref 1131, .int 6] s1 (ps_rV (fun s8 =>
        ps_Cl d 227 [.ref 1131, .int ((24108 : Int32) + ((41 : Int32) * x1))] s8 (ps_rV (fun s9 =>
          ps_Cl d 227 [.ref 1131, .int ((24108 : Int32) + ((41 : Int32) * x1))] s9 (ps_rV (fun s10 =>
            Q none s10))))))) ∧
    ((ps_a s1 1152 (Int32.toNatClampNeg x1)) ≠ 15 →
      ps_Cl d 247 [.ref 1131, .int v1] s1 (ps_rI (fun v11 s11 =>
      (v11 = 6 →
        ps_Cl d 245 [.ref 1131, .int x1] s11 (ps_rI (fun v12 s12 =>
          ps_Cl d 260 [.ref 1131, .int v1, .int v12, .int ((22468 : Int32) + ((41 : Int32) * x1))] s12 (ps_rI (fun v13 s13 =>
            (v13 ≠ 0 →
              ps_At (d + 1) 257 275 [(0, .ref 1131), (1, .int x1), (4, .int ((22468 : Int32) + ((41 : Int32) * x1)))] [] s13 Q) ∧
            (v13 = 0 →
              ps_Cl d 241 [.ref 1131, .int 4] s13 (ps_rV (fun s14 =>
                ps_At (d + 1) 257 275 [(0, .ref 1131), (1, .int x1), (4, .int ((22468 : Int32) + ((41 : Int32) * x1)))] [] s14 Q)))))))) ∧
      (v11 ≠ 6 →
        ps_Cl d 241 [.ref 1131, .int 2] s11 (ps_rV (fun s15 =>
          ps_At (d + 1) 257 275 [(0, .ref 1131), (1, .int x1), (4, .int ((22468 : Int32) + ((41 : Int32) * x1)))] [] s15 Q)))))))))))))) : ps_At (d + 1) 257 0 [(0, .ref 1131), (1, .int x1)] [] s Q :=
  ps_wp_at (stops := [(67, [0, 1, 2, 5]), (177, [0, 1, 2, 4]), (195, [0, 1, 4]), (200, [0, 1, 4]), (275, [0, 1, 4]), (281, [0, 1])]) (n := 84) h rfl

theorem pg_257_67 {d : Nat} {x1 : Int32} {x2 : Int32} {x5 : Int32} {s : ps_S} {Q : Option Value → ps_S → Prop} (h :
  ps_nd (pm_in x1 40) (ps_nd (pm_in (ps_a s 1153 (Int32.toNatClampNeg x1)) 41) (((ps_a s 1157 (Int32.toNatClampNeg (ps_a s 1153 (Int32.toNatClampNeg x1)))) ≤ x5 →
    ps_nd (pm_in x1 40) (ps_Cl d 232 [.ref 1131, .int x2, .int (ps_a s 1156 (Int32.toNatClampNeg x1))] s (ps_rV (fun s1 =>
      ps_At (d + 1) 257 281 [(0, .ref 1131), (1, .int x1)] [] s1 Q)))) ∧
  (x5 < (ps_a s 1157 (Int32.toNatClampNeg (ps_a s 1153 (Int32.toNatClampNeg x1)))) →
    ps_nd (pm_in x1 40) (ps_Cl d 243 [.int (ps_a s 1153 (Int32.toNatClampNeg x1)), .int x5] s (ps_rI (fun v2 s2 =>
      ps_nd (pm_in x1 40) (ps_Cl d 223 [.ref 1131, .int v2, .int (ps_a s2 1156 (Int32.toNatClampNeg x1))] s2 (ps_rI (fun v3 s3 =>
        (v3 = 0 →
          ps_At (d + 1) 257 67 [(0, .ref 1131), (1, .int x1), (2, .int x2), (5, .int (x5 + 1))] [] s3 Q) ∧
        (v3 ≠ 0 →
          ps_Cl d 241 [.ref 1131, .int 3] s3 (ps_rV (fun s4 =>
            ps_At (d + 1) 257 67 [(0, .ref 1131), (1, .int x1), (2, .int x2), (5, .int (x5 + 1))] [] s4 Q))))))))))))) : ps_At (d + 1) 257 67 [(0, .ref 1131), (1, .int x1), (2, .int x2), (5, .int x5)] [] s Q :=
  ps_wp_at (stops := [(67, [0, 1, 2, 5]), (177, [0, 1, 2, 4]), (195, [0, 1, 4]), (200, [0, 1, 4]), (275, [0, 1, 4]), (281, [0, 1])]) (n := 39) h rfl

theorem pg_257_177 {d : Nat} {x1 : Int32} {x2 : Int32} {x4 : Int32} {s : ps_S} {Q : Option Value → ps_S → Prop} (h :
  ps_Cl d 247 [.ref 1131, .int x4] s (ps_rI (fun v1 s1 =>
    (v1 ≠ 5 →
      ps_At (d + 1) 257 195 [(0, .ref 1131), (1, .int x1), (4, .int x4)] [] s1 Q) ∧
    (v1 = 5 →
      ps_Cl d 230 [.ref 1131, .int x2] s1 (ps_rI (fun v2 s2 =>
        (v2 ≠ 0 →
          ps_At (d + 1) 257 200 [(0, .ref 1131), (1, .int x1), (4, .int x4)] [] s2 Q) ∧
        (v2 = 0 →
          ps_At (d + 1) 257 195 [(0, .ref 1131), (1, .int x1), (4, .int x4)] [] s2 Q))))))) : ps_At (d + 1) 257 177 [(0, .ref 1131), (1, .int x1), (2, .int x2), (4, .int x4)] [] s Q :=
  ps_wp_at (stops := [(67, [0, 1, 2, 5]), (177, [0, 1, 2, 4]), (195, [0, 1, 4]), (200, [0, 1, 4]), (275, [0, 1, 4]), (281, [0, 1])]) (n := 11) h rfl

theorem pg_257_195 {d : Nat} {x1 : Int32} {x4 : Int32} {s : ps_S} {Q : Option Value → ps_S → Prop} (h :
  ps_Cl d 241 [.ref 1131, .int 4] s (ps_rV (fun s1 =>
    ps_At (d + 1) 257 200 [(0, .ref 1131), (1, .int x1), (4, .int x4)] [] s1 Q))) : ps_At (d + 1) 257 195 [(0, .ref 1131), (1, .int x1), (4, .int x4)] [] s Q :=
  ps_wp_at (stops := [(67, [0, 1, 2, 5]), (177, [0, 1, 2, 4]), (195, [0, 1, 4]), (200, [0, 1, 4]), (275, [0, 1, 4]), (281, [0, 1])]) (n := 5) h rfl

theorem pg_257_200 {d : Nat} {x1 : Int32} {x4 : Int32} {s : ps_S} {Q : Option Value → ps_S → Prop} (h :
  ps_Cl d 227 [.ref 1131, .int x4] (ps_ui s 1131 34 0) (ps_rV (fun s1 =>
    ps_At (d + 1) 257 281 [(0, .ref 1131), (1, .int x1)] [] s1 Q))) : ps_At (d + 1) 257 200 [(0, .ref 1131), (1, .int x1), (4, .int x4)] [] s Q :=
  ps_wp_at (stops := [(67, [0, 1, 2, 5]), (177, [0, 1, 2, 4]), (195, [0, 1, 4]), (200, [0, 1, 4]), (275, [0, 1, 4]), (281, [0, 1])]) (n := 9) h rfl

theorem pg_257_275 {d : Nat} {x1 : Int32} {x4 : Int32} {s : ps_S} {Q : Option Value → ps_S → Prop} (h :
  ps_Cl d 227 [.ref 1131, .int x4] s (ps_rV (fun s1 =>
    ps_At (d + 1) 257 281 [(0, .ref 1131), (1, .int x1)] [] s1 Q))) : ps_At (d + 1) 257 275 [(0, .ref 1131), (1, .int x1), (4, .int x4)] [] s Q :=
  ps_wp_at (stops := [(67, [0, 1, 2, 5]), (177, [0, 1, 2, 4]), (195, [0, 1, 4]), (200, [0, 1, 4]), (275, [0, 1, 4]), (281, [0, 1])]) (n := 5) h rfl

theorem pg_257_281 {d : Nat} {x1 : Int32} {s : ps_S} {Q : Option Value → ps_S → Prop} (h :
  ps_nd (pm_in x1 40) (ps_Cl d 249 [.ref 1131, .int x1, .int (ps_a s 1153 (Int32.toNatClampNeg x1)), .int 0] s (ps_rV (fun s1 =>
    ps_nd (pm_in x1 40) (((ps_a s1 1152 (Int32.toNatClampNeg x1)) ≠ 16 →
      Q none s1) ∧
    ((ps_a s1 1152 (Int32.toNatClampNeg x1)) = 16 →
      ps_nd (pm_in x1 40) (ps_Cl d 249 [.ref 1131, .int x1, .int (ps_a s1 1154 (Int32.toNatClampNeg x1)), .int 0] s1 (ps_rV (fun s2 =>
        Q none s2))))))))) : ps_At (d + 1) 257 281 [(0, .ref 1131), (1, .int x1)] [] s Q :=
  ps_wp_at (stops := [(67, [0, 1, 2, 5]), (177, [0, 1, 2, 4]), (195, [0, 1, 4]), (200, [0, 1, 4]), (275, [0, 1, 4]), (281, [0, 1])]) (n := 26) h rfl

theorem ms_257_281 {x : Nat → Nat → Nat} {t : Int32} {d : Nat} {s0 : ps_S} {σ : mSig} {x1 : Int32} {Q : Option Value → ps_S → Prop} (k : ∀ (s' : ps_S), mJ x t s' → kp [1134, 1149, 1150] [34, 50, 51] s0 s' → (As σ (ps_a s' 1134) x1.toInt (ps_i s' 1131 51).toInt) → (OutB (ps_a s0 1134) (ps_a s' 1134) x1.toInt) → ((ps_i s0 1131 51).toInt ≤ (ps_i s' 1131 51).toInt) → ((ps_i s' 1131 51).toInt ≤ (ps_i s0 1131 51).toInt + 36) → (Res σ (ps_a s' 1149) (ps_i s' 1131 34).toInt (ps_i s' 1131 50).toInt) → Q none s') (s : ps_S) (J : mJ x t s) (K : kp [1134, 1149, 1150] [34, 50, 51] s0 s) (hS : Sg (ps_a s 1135) (ps_a s 1136) (ps_a s 1138) (ps_a s 1139) (ps_i s 1131 21).toInt σ) (hC : SC σ (ps_a s 1134) (ps_a s 1157) (ps_a s 1152) (ps_a s 1153) (ps_a s 1154) (ps_a s 1155) (ps_i s 1131 21).toInt x1.toInt) (hA : As σ (ps_a s 1134) x1.toInt (ps_i s 1131 51).toInt) (hO : OutB (ps_a s0 1134) (ps_a s 1134) x1.toInt) (i4_k : 0 ≤ x1.toInt) (i5_k : x1.toInt < 40) (i6_k : (ps_i s0 1131 51).toInt ≤ 100) (i7_k : (ps_i s 1131 51).toInt = (ps_i s0 1131 51).toInt) (i8_k : 11 ≤ (ps_a s 1152 (Int32.toNatClampNeg x1)).toInt) (i9_k : (ps_a s 1152 (Int32.toNatClampNeg x1)).toInt ≤ 16) (i10_k : (ps_a s 1152 (Int32.toNatClampNeg x1)).toInt ≠ 14) (i11_k : (ps_a s 1152 (Int32.toNatClampNeg x1)).toInt ≠ 15) (hRs : Res σ (ps_a s 1149) (ps_i s 1131 34).toInt (ps_i s 1131 50).toInt) : ps_At (d + 5) 257 281 [(0, .ref 1131), (1, .int x1)] [] s Q := by
  have r1_k := mf_51 J
  have r2_k : 0 ≤ (ps_a s 1152 (Int32.toNatClampNeg x1)).toInt ∧ (ps_a s 1152 (Int32.toNatClampNeg x1)).toInt ≤ 18 := ma_1152 (i := x1) J (show 0 ≤ x1.toInt from by omega) (show x1.toInt < 40 from by omega)
  refine pg_257_281 (d := d + 4) ?_
  have q1_k := SC_l1 hC rfl ⟨by omega, by omega, by omega, by omega⟩
  have g0 := SC_g0 hC rfl
  refine ps_nd_i (show pm_in x1 40 = true from xgi (show 0 ≤ x1.toInt from by omega) (show x1.toInt < 40 from by omega)) ?_
  have r3_k : -1 ≤ (ps_a s 1153 (Int32.toNatClampNeg x1)).toInt ∧ (ps_a s 1153 (Int32.toNatClampNeg x1)).toInt ≤ 9999 := ma_1153 (i := x1) J (show 0 ≤ x1.toInt from by omega) (show x1.toInt < 40 from by omega)
  refine ms_249 J hA ((SC_p hC)) (show 0 ≤ x1.toInt from by omega) (show x1.toInt < 40 from by omega) (show 0 ≤ (ps_a s 1153 (Int32.toNatClampNeg x1)).toInt from by omega) (show (ps_a s 1153 (Int32.toNatClampNeg x1)).toInt < x1.toInt from by omega) (show (ps_i s 1131 51).toInt ≤ 800 from by omega) (fun s4 J4 K4 p4_0 p4_1 p4_2 p4_3 => ?_)
  have K5 := kpt K K4 rfl rfl
  have KC := K4
  have hS : Sg (ps_a s4 1135) (ps_a s4 1136) (ps_a s4 1138) (ps_a s4 1139) (ps_i s4 1131 21).toInt σ := by rw [show ps_a s4 1135 = ps_a s 1135 from (K4.2 1135 rfl).1, show ps_a s4 1136 = ps_a s 1136 from (K4.2 1136 rfl).1, show ps_a s4 1138 = ps_a s 1138 from (K4.2 1138 rfl).1, show ps_a s4 1139 = ps_a s 1139 from (K4.2 1139 rfl).1, show ps_i s4 1131 21 = ps_i s 1131 21 from kp_i K4 21 rfl]; exact hS
  have hRs : Res σ (ps_a s4 1149) (ps_i s4 1131 34).toInt (ps_i s4 1131 50).toInt := by rw [show ps_a s4 1149 = ps_a s 1149 from (K4.2 1149 rfl).1, show ps_i s4 1131 34 = ps_i s 1131 34 from kp_i K4 34 rfl, show ps_i s4 1131 50 = ps_i s 1131 50 from kp_i K4 50 rfl]; exact hRs
  have p4_2' : (ps_i s 1131 51).toInt ≤ (ps_i s4 1131 51).toInt := p4_2
  have r6_k := mf_51 J4
  have p4_3' : (ps_i s4 1131 51).toInt ≤ (ps_i s 1131 51).toInt + 12 := p4_3
  have hA : As σ (ps_a s4 1134) x1.toInt (ps_i s4 1131 51).toInt := p4_0
  have ho : _ := p4_1
  have hO := OutB_tr hO ho
  have hC : SC σ (ps_a s4 1134) (ps_a s4 1157) (ps_a s4 1152) (ps_a s4 1153) (ps_a s4 1154) (ps_a s4 1155) (ps_i s4 1131 21).toInt x1.toInt := by rw [show ps_a s4 1157 = ps_a s 1157 from (KC.2 1157 rfl).1, show ps_a s4 1152 = ps_a s 1152 from (KC.2 1152 rfl).1, show ps_a s4 1153 = ps_a s 1153 from (KC.2 1153 rfl).1, show ps_a s4 1154 = ps_a s 1154 from (KC.2 1154 rfl).1, show ps_a s4 1155 = ps_a s 1155 from (KC.2 1155 rfl).1, show ps_i s4 1131 21 = ps_i s 1131 21 from kp_i KC 21 rfl]; exact SC_out hC ho
  refine ps_nd_i (show pm_in x1 40 = true from xgi (show 0 ≤ x1.toInt from by omega) (show x1.toInt < 40 from by omega)) ?_
  have r7_k : 0 ≤ (ps_a s4 1152 (Int32.toNatClampNeg x1)).toInt ∧ (ps_a s4 1152 (Int32.toNatClampNeg x1)).toInt ≤ 18 := ma_1152 (i := x1) J4 (show 0 ≤ x1.toInt from by omega) (show x1.toInt < 40 from by omega)
  have u8 : (ps_a s4 1152 (Int32.toNatClampNeg x1)).toInt = (ps_a s 1152 (Int32.toNatClampNeg x1)).toInt := xeq (kp_a K4 1152 rfl _)
  refine And.intro (fun h9_k => ?_) (fun h9_k => ?_)
  · have f10_k : (ps_a s4 1152 (Int32.toNatClampNeg x1)).toInt ≠ (16 : Int) := xne h9_k
    exact k _ J4 K5 hA ((by first | exact hO | exact OutB_tr hO ho)) (show (ps_i s0 1131 51).toInt ≤ (ps_i s4 1131 51).toInt from by omega) (show (ps_i s4 1131 51).toInt ≤ (ps_i s0 1131 51).toInt + 36 from by omega) hRs
  · have f11_k : (ps_a s4 1152 (Int32.toNatClampNeg x1)).toInt = (16 : Int) := xeq h9_k
    have q2_k := SC_l2 hC rfl (by omega)
    refine ps_nd_i (show pm_in x1 40 = true from xgi (show 0 ≤ x1.toInt from by omega) (show x1.toInt < 40 from by omega)) ?_
    have r12_k : 0 ≤ (ps_a s4 1154 (Int32.toNatClampNeg x1)).toInt ∧ (ps_a s4 1154 (Int32.toNatClampNeg x1)).toInt ≤ 9999 := ma_1154 (i := x1) J4 (show 0 ≤ x1.toInt from by omega) (show x1.toInt < 40 from by omega)
    have u13 : (ps_a s4 1154 (Int32.toNatClampNeg x1)).toInt = (ps_a s 1154 (Int32.toNatClampNeg x1)).toInt := xeq (kp_a K4 1154 rfl _)
    have r14_k : 0 ≤ (ps_a s 1154 (Int32.toNatClampNeg x1)).toInt ∧ (ps_a s 1154 (Int32.toNatClampNeg x1)).toInt ≤ 9999 := ma_1154 (i := x1) J (show 0 ≤ x1.toInt from by omega) (show x1.toInt < 40 from by omega)
    refine ms_249 J4 hA ((SC_p hC)) (show 0 ≤ x1.toInt from by omega) (show x1.toInt < 40 from by omega) (show 0 ≤ (ps_a s4 1154 (Int32.toNatClampNeg x1)).toInt from by omega) (show (ps_a s4 1154 (Int32.toNatClampNeg x1)).toInt < x1.toInt from by omega) (show (ps_i s4 1131 51).toInt ≤ 800 from by omega) (fun s15 J15 K15 p15_0 p15_1 p15_2 p15_3 => ?_)
    have K16 := kpt K5 K15 rfl rfl
    have KC := K15
    have hS : Sg (ps_a s15 1135) (ps_a s15 1136) (ps_a s15 1138) (ps_a s15 1139) (ps_i s15 1131 21).toInt σ := by rw [show ps_a s15 1135 = ps_a s4 1135 from (K15.2 1135 rfl).1, show ps_a s15 1136 = ps_a s4 1136 from (K15.2 1136 rfl).1, show ps_a s15 1138 = ps_a s4 1138 from (K15.2 1138 rfl).1, show ps_a s15 1139 = ps_a s4 1139 from (K15.2 1139 rfl).1, show ps_i s15 1131 21 = ps_i s4 1131 21 from kp_i K15 21 rfl]; exact hS
    have hRs : Res σ (ps_a s15 1149) (ps_i s15 1131 34).toInt (ps_i s15 1131 50).toInt := by rw [show ps_a s15 1149 = ps_a s4 1149 from (K15.2 1149 rfl).1, show ps_i s15 1131 34 = ps_i s4 1131 34 from kp_i K15 34 rfl, show ps_i s15 1131 50 = ps_i s4 1131 50 from kp_i K15 50 rfl]; exact hRs
    have p15_2' : (ps_i s4 1131 51).toInt ≤ (ps_i s15 1131 51).toInt := p15_2
    have r17_k := mf_51 J15
    have p15_3' : (ps_i s15 1131 51).toInt ≤ (ps_i s4 1131 51).toInt + 12 := p15_3
    have hA : As σ (ps_a s15 1134) x1.toInt (ps_i s15 1131 51).toInt := p15_0
    have ho : _ := p15_1
    exact k _ J15 K16 hA ((by first | exact hO | exact OutB_tr hO ho)) (show (ps_i s0 1131 51).toInt ≤ (ps_i s15 1131 51).toInt from by omega) (show (ps_i s15 1131 51).toInt ≤ (ps_i s0 1131 51).toInt + 36 from by omega) hRs

theorem ms_257_67 {x : Nat → Nat → Nat} {t : Int32} {d : Nat} {s0 : ps_S} {σ : mSig} {x1 : Int32} {Q : Option Value → ps_S → Prop} (k : ∀ (s' : ps_S), mJ x t s' → kp [1134, 1149, 1150] [34, 50, 51] s0 s' → (As σ (ps_a s' 1134) x1.toInt (ps_i s' 1131 51).toInt) → (OutB (ps_a s0 1134) (ps_a s' 1134) x1.toInt) → ((ps_i s0 1131 51).toInt ≤ (ps_i s' 1131 51).toInt) → ((ps_i s' 1131 51).toInt ≤ (ps_i s0 1131 51).toInt + 36) → (Res σ (ps_a s' 1149) (ps_i s' 1131 34).toInt (ps_i s' 1131 50).toInt) → Q none s') : ∀ (n : Nat) (x2 : Int32) (x5 : Int32) (s : ps_S), (mJ x t s) → (kp [1134, 1149, 1150] [34, 50, 51] s0 s) → (Sg (ps_a s 1135) (ps_a s 1136) (ps_a s 1138) (ps_a s 1139) (ps_i s 1131 21).toInt σ) → (SC σ (ps_a s 1134) (ps_a s 1157) (ps_a s 1152) (ps_a s 1153) (ps_a s 1154) (ps_a s 1155) (ps_i s 1131 21).toInt x1.toInt) → (As σ (ps_a s 1134) x1.toInt (ps_i s 1131 51).toInt) → (OutB (ps_a s0 1134) (ps_a s 1134) x1.toInt) → (Md (ps_a s 1149) (ps_i s 1131 34).toInt ([] : List Nat)) → (0 ≤ x1.toInt) → (x1.toInt < 40) → ((ps_i s0 1131 51).toInt ≤ 100) → ((ps_i s 1131 51).toInt = (ps_i s0 1131 51).toInt) → ((ps_a s 1152 (Int32.toNatClampNeg x1)).toInt = 11) → (x2.toInt = 41 * (ps_a s 1153 (Int32.toNatClampNeg x1)).toInt) → (0 ≤ x5.toInt) → (x5.toInt ≤ 12) → 20 - x5.toInt ≤ (n : Int) → ps_At (d + 5) 257 67 [(0, .ref 1131), (1, .int x1), (2, .int x2), (5, .int x5)] [] s Q := by
  refine xstr (fun n ih => ?_)
  intro x2 x5 s J K hS hC hA hO hM i5_k i6_k i7_k i8_k i9_k i10_k i11_k i12_k hm
  have r1_k := mf_51 J
  have r2_k : 0 ≤ (ps_a s 1152 (Int32.toNatClampNeg x1)).toInt ∧ (ps_a s 1152 (Int32.toNatClampNeg x1)).toInt ≤ 18 := ma_1152 (i := x1) J (show 0 ≤ x1.toInt from by omega) (show x1.toInt < 40 from by omega)
  have r3_k : -1 ≤ (ps_a s 1153 (Int32.toNatClampNeg x1)).toInt ∧ (ps_a s 1153 (Int32.toNatClampNeg x1)).toInt ≤ 9999 := ma_1153 (i := x1) J (show 0 ≤ x1.toInt from by omega) (show x1.toInt < 40 from by omega)
  refine pg_257_67 (d := d + 4) ?_
  have q1_k := SC_l1 hC rfl ⟨by omega, by omega, by omega, by omega⟩
  have hga := ma_1153 (i := x1) J (by omega) (by omega)
  have g0 := SC_g0 hC rfl
  refine ps_nd_i (show pm_in x1 40 = true from xgi (show 0 ≤ x1.toInt from by omega) (show x1.toInt < 40 from by omega)) ?_
  refine ps_nd_i (show pm_in (ps_a s 1153 (Int32.toNatClampNeg x1)) 41 = true from xgi (show 0 ≤ (ps_a s 1153 (Int32.toNatClampNeg x1)).toInt from by omega) (show (ps_a s 1153 (Int32.toNatClampNeg x1)).toInt < 41 from by omega)) ?_
  have r4_k : 0 ≤ (ps_a s 1157 (Int32.toNatClampNeg (ps_a s 1153 (Int32.toNatClampNeg x1)))).toInt ∧ (ps_a s 1157 (Int32.toNatClampNeg (ps_a s 1153 (Int32.toNatClampNeg x1)))).toInt ≤ 12 := ma_1157 (i := (ps_a s 1153 (Int32.toNatClampNeg x1))) J (show 0 ≤ (ps_a s 1153 (Int32.toNatClampNeg x1)).toInt from by omega) (show (ps_a s 1153 (Int32.toNatClampNeg x1)).toInt < 41 from by omega)
  refine And.intro (fun h5_k => ?_) (fun h5_k => ?_)
  · have f6_k : (ps_a s 1157 (Int32.toNatClampNeg (ps_a s 1153 (Int32.toNatClampNeg x1)))).toInt ≤ x5.toInt := xle h5_k
    obtain ⟨l, hl1, hl2⟩ := SC_1i hC rfl ⟨by omega, by omega, by omega, by omega⟩
    have hl1 : Rw (ps_a s 1134) (x2).toInt l := by rw [show (x2).toInt = 41 * (ps_a s 1153 (Int32.toNatClampNeg x1)).toInt from by omega]; exact hl1
    have hlen0 := hl1.2.2.2.1
    have w1 := hl1.1
    have w2 := hl1.2.1
    have w3 := hl1.2.2.1
    refine ps_nd_i (show pm_in x1 40 = true from xgi (show 0 ≤ x1.toInt from by omega) (show x1.toInt < 40 from by omega)) ?_
    have r7_k : 0 ≤ (ps_a s 1156 (Int32.toNatClampNeg x1)).toInt ∧ (ps_a s 1156 (Int32.toNatClampNeg x1)).toInt ≤ 11 := ma_1156 (i := x1) J (show 0 ≤ x1.toInt from by omega) (show x1.toInt < 40 from by omega)
    refine ms_232 J hS (hl1) (hM) ((by decide)) ((show ws σ l [true] from wf_ws hl2)) ((wf_29 hl2 hlen0)) (show 0 ≤ (ps_a s 1156 (Int32.toNatClampNeg x1)).toInt from by omega) (show (ps_a s 1156 (Int32.toNatClampNeg x1)).toInt ≤ 11 from by omega) (fun s8 J8 K8 p8_0 => ?_)
    have K9 := kpt K K8 rfl rfl
    have KC := K8
    have hS : Sg (ps_a s8 1135) (ps_a s8 1136) (ps_a s8 1138) (ps_a s8 1139) (ps_i s8 1131 21).toInt σ := by rw [show ps_a s8 1135 = ps_a s 1135 from (K8.2 1135 rfl).1, show ps_a s8 1136 = ps_a s 1136 from (K8.2 1136 rfl).1, show ps_a s8 1138 = ps_a s 1138 from (K8.2 1138 rfl).1, show ps_a s8 1139 = ps_a s 1139 from (K8.2 1139 rfl).1, show ps_i s8 1131 21 = ps_i s 1131 21 from kp_i K8 21 rfl]; exact hS
    have hC : SC σ (ps_a s8 1134) (ps_a s8 1157) (ps_a s8 1152) (ps_a s8 1153) (ps_a s8 1154) (ps_a s8 1155) (ps_i s8 1131 21).toInt x1.toInt := by rw [show ps_a s8 1134 = ps_a s 1134 from (K8.2 1134 rfl).1, show ps_a s8 1157 = ps_a s 1157 from (K8.2 1157 rfl).1, show ps_a s8 1152 = ps_a s 1152 from (K8.2 1152 rfl).1, show ps_a s8 1153 = ps_a s 1153 from (K8.2 1153 rfl).1, show ps_a s8 1154 = ps_a s 1154 from (K8.2 1154 rfl).1, show ps_a s8 1155 = ps_a s 1155 from (K8.2 1155 rfl).1, show ps_i s8 1131 21 = ps_i s 1131 21 from kp_i K8 21 rfl]; exact hC
    have hA : As σ (ps_a s8 1134) x1.toInt (ps_i s8 1131 51).toInt := by rw [show ps_a s8 1134 = ps_a s 1134 from (K8.2 1134 rfl).1, show ps_i s8 1131 51 = ps_i s 1131 51 from kp_i K8 51 rfl]; exact hA
    have hO : OutB (ps_a s0 1134) (ps_a s8 1134) x1.toInt := by rw [show ps_a s8 1134 = ps_a s 1134 from (K8.2 1134 rfl).1]; exact hO
    have hG : _ := p8_0
    have r10_k := mf_51 J8
    have u11 : (ps_i s8 1131 51).toInt = (ps_i s 1131 51).toInt := xeq (kp_i K8 51 rfl)
    have r12_k : 0 ≤ (ps_a s8 1152 (Int32.toNatClampNeg x1)).toInt ∧ (ps_a s8 1152 (Int32.toNatClampNeg x1)).toInt ≤ 18 := ma_1152 (i := x1) J8 (show 0 ≤ x1.toInt from by omega) (show x1.toInt < 40 from by omega)
    have u13 : (ps_a s8 1152 (Int32.toNatClampNeg x1)).toInt = (ps_a s 1152 (Int32.toNatClampNeg x1)).toInt := xeq (kp_a K8 1152 rfl _)
    exact ms_257_281 (x1 := x1) (σ := σ) k   _ J8 K9 hS hC hA hO (show 0 ≤ x1.toInt from by omega) (show x1.toInt < 40 from by omega) (show (ps_i s0 1131 51).toInt ≤ 100 from by omega) (show (ps_i s8 1131 51).toInt = (ps_i s0 1131 51).toInt from by omega) (show 11 ≤ (ps_a s8 1152 (Int32.toNatClampNeg x1)).toInt from by omega) (show (ps_a s8 1152 (Int32.toNatClampNeg x1)).toInt ≤ 16 from by omega) (show (ps_a s8 1152 (Int32.toNatClampNeg x1)).toInt ≠ 14 from by omega) (show (ps_a s8 1152 (Int32.toNatClampNeg x1)).toInt ≠ 15 from by omega) ((by obtain ⟨m, g1, g2, g3⟩ := hG; exact ⟨_, g3, by simp only [List.length_append, List.length_cons, List.length_nil]; omega, Or.inl (show ws σ (4 :: m) [true] from ws_c (W' := []) (kS_f1 (Or.inl rfl)) (rp_ws (Sg_σ hS) g2 (wf_ws hl2)))⟩))
  · have f14_k : x5.toInt < (ps_a s 1157 (Int32.toNatClampNeg (ps_a s 1153 (Int32.toNatClampNeg x1)))).toInt := xlt h5_k
    refine ps_nd_i (show pm_in x1 40 = true from xgi (show 0 ≤ x1.toInt from by omega) (show x1.toInt < 40 from by omega)) ?_
    refine pg_243_0 ?_
    have a15_k : ((12 : Int32) * (ps_a s 1153 (Int32.toNatClampNeg x1))).toInt = (12 : Int) * (ps_a s 1153 (Int32.toNatClampNeg x1)).toInt := xIm (show -2147483648 ≤ (12 : Int) * (ps_a s 1153 (Int32.toNatClampNeg x1)).toInt from by omega) (show (12 : Int) * (ps_a s 1153 (Int32.toNatClampNeg x1)).toInt < 2147483648 from by omega)
    have a16_k : (((12 : Int32) * (ps_a s 1153 (Int32.toNatClampNeg x1))) + x5).toInt = ((12 : Int32) * (ps_a s 1153 (Int32.toNatClampNeg x1))).toInt + x5.toInt := xIa (show -2147483648 ≤ ((12 : Int32) * (ps_a s 1153 (Int32.toNatClampNeg x1))).toInt + x5.toInt from by omega) (show ((12 : Int32) * (ps_a s 1153 (Int32.toNatClampNeg x1))).toInt + x5.toInt < 2147483648 from by omega)
    have a17_k : ((41 : Int32) * (((12 : Int32) * (ps_a s 1153 (Int32.toNatClampNeg x1))) + x5)).toInt = (41 : Int) * (((12 : Int32) * (ps_a s 1153 (Int32.toNatClampNeg x1))) + x5).toInt := xIm (show -2147483648 ≤ (41 : Int) * (((12 : Int32) * (ps_a s 1153 (Int32.toNatClampNeg x1))) + x5).toInt from by omega) (show (41 : Int) * (((12 : Int32) * (ps_a s 1153 (Int32.toNatClampNeg x1))) + x5).toInt < 2147483648 from by omega)
    have a18_k : ((1640 : Int32) + ((41 : Int32) * (((12 : Int32) * (ps_a s 1153 (Int32.toNatClampNeg x1))) + x5))).toInt = (1640 : Int) + ((41 : Int32) * (((12 : Int32) * (ps_a s 1153 (Int32.toNatClampNeg x1))) + x5)).toInt := xIa (show -2147483648 ≤ (1640 : Int) + ((41 : Int32) * (((12 : Int32) * (ps_a s 1153 (Int32.toNatClampNeg x1))) + x5)).toInt from by omega) (show (1640 : Int) + ((41 : Int32) * (((12 : Int32) * (ps_a s 1153 (Int32.toNatClampNeg x1))) + x5)).toInt < 2147483648 from by omega)
    obtain ⟨lr, hr1, hr2⟩ : Fm σ (ps_a s 1134) ((1640 : Int32) + ((41 : Int32) * (((12 : Int32) * (ps_a s 1153 (Int32.toNatClampNeg x1))) + x5))).toInt := by rw [show ((1640 : Int32) + ((41 : Int32) * (((12 : Int32) * (ps_a s 1153 (Int32.toNatClampNeg x1))) + x5))).toInt = 1640 + 41 * (12 * (((ps_a s 1153 (Int32.toNatClampNeg x1)).toInt.toNat : Nat) : Int) + ((x5.toInt.toNat : Nat) : Int)) from by omega]; exact ((SC_p hC) ((ps_a s 1153 (Int32.toNatClampNeg x1)).toInt).toNat (by omega)).2 (x5.toInt).toNat (by show ((x5.toInt.toNat : Nat) : Int) < (ps_a s 1157 (Int32.toNatClampNeg (ps_a s 1153 (Int32.toNatClampNeg x1)))).toInt; omega) (by omega)
    refine ps_nd_i (show pm_in x1 40 = true from xgi (show 0 ≤ x1.toInt from by omega) (show x1.toInt < 40 from by omega)) ?_
    have r19_k : 0 ≤ (ps_a s 1156 (Int32.toNatClampNeg x1)).toInt ∧ (ps_a s 1156 (Int32.toNatClampNeg x1)).toInt ≤ 11 := ma_1156 (i := x1) J (show 0 ≤ x1.toInt from by omega) (show x1.toInt < 40 from by omega)
    refine ms_223 J (hr1) (show 0 ≤ (ps_a s 1156 (Int32.toNatClampNeg x1)).toInt from by omega) (show (ps_a s 1156 (Int32.toNatClampNeg x1)).toInt ≤ 11 from by omega) (fun v20 p20_0 b20 => ?_)
    refine And.intro (fun h21_k => ?_) (fun h21_k => ?_)
    · have f22_k : v20.toInt = (0 : Int) := xeq h21_k
      have a23_k : (x5 + 1).toInt = x5.toInt + (1 : Int) := xIa (show -2147483648 ≤ x5.toInt + (1 : Int) from by omega) (show x5.toInt + (1 : Int) < 2147483648 from by omega)
      exact ih (n - 1) (show n - 1 < n from by omega) x2 (x5 + 1) _ J K hS hC hA hO hM (show 0 ≤ x1.toInt from by omega) (show x1.toInt < 40 from by omega) (show (ps_i s0 1131 51).toInt ≤ 100 from by omega) (show (ps_i s 1131 51).toInt = (ps_i s0 1131 51).toInt from by omega) (show (ps_a s 1152 (Int32.toNatClampNeg x1)).toInt = 11 from by omega) (show x2.toInt = 41 * (ps_a s 1153 (Int32.toNatClampNeg x1)).toInt from by omega) (show 0 ≤ (x5 + 1).toInt from by omega) (show (x5 + 1).toInt ≤ 12 from by omega) (show 20 - (x5 + 1).toInt ≤ ((n - 1 : Nat) : Int) from by omega)
    · have f24_k : v20.toInt ≠ (0 : Int) := xne h21_k
      refine ms_241 J (show 1 ≤ (3 : Int) from by omega) (show (3 : Int) ≤ 5 from by omega) (fun s25 J25 K25 p25_0 => ?_)
      have K26 := kpt K K25 rfl rfl
      have KC := K25
      have hS : Sg (ps_a s25 1135) (ps_a s25 1136) (ps_a s25 1138) (ps_a s25 1139) (ps_i s25 1131 21).toInt σ := by rw [show ps_a s25 1135 = ps_a s 1135 from (K25.2 1135 rfl).1, show ps_a s25 1136 = ps_a s 1136 from (K25.2 1136 rfl).1, show ps_a s25 1138 = ps_a s 1138 from (K25.2 1138 rfl).1, show ps_a s25 1139 = ps_a s 1139 from (K25.2 1139 rfl).1, show ps_i s25 1131 21 = ps_i s 1131 21 from kp_i K25 21 rfl]; exact hS
      have hC : SC σ (ps_a s25 1134) (ps_a s25 1157) (ps_a s25 1152) (ps_a s25 1153) (ps_a s25 1154) (ps_a s25 1155) (ps_i s25 1131 21).toInt x1.toInt := by rw [show ps_a s25 1134 = ps_a s 1134 from (K25.2 1134 rfl).1, show ps_a s25 1157 = ps_a s 1157 from (K25.2 1157 rfl).1, show ps_a s25 1152 = ps_a s 1152 from (K25.2 1152 rfl).1, show ps_a s25 1153 = ps_a s 1153 from (K25.2 1153 rfl).1, show ps_a s25 1154 = ps_a s 1154 from (K25.2 1154 rfl).1, show ps_a s25 1155 = ps_a s 1155 from (K25.2 1155 rfl).1, show ps_i s25 1131 21 = ps_i s 1131 21 from kp_i K25 21 rfl]; exact hC
      have hA : As σ (ps_a s25 1134) x1.toInt (ps_i s25 1131 51).toInt := by rw [show ps_a s25 1134 = ps_a s 1134 from (K25.2 1134 rfl).1, show ps_i s25 1131 51 = ps_i s 1131 51 from kp_i K25 51 rfl]; exact hA
      have hO : OutB (ps_a s0 1134) (ps_a s25 1134) x1.toInt := by rw [show ps_a s25 1134 = ps_a s 1134 from (K25.2 1134 rfl).1]; exact hO
      have hM : Md (ps_a s25 1149) (ps_i s25 1131 34).toInt ([] : List Nat) := by rw [show ps_a s25 1149 = ps_a s 1149 from (K25.2 1149 rfl).1, show ps_i s25 1131 34 = ps_i s 1131 34 from kp_i K25 34 rfl]; exact hM
      have p25_0' : 1 ≤ (ps_i s25 1131 50).toInt := p25_0
      have r27_k := mf_50 J25
      have a28_k : (x5 + 1).toInt = x5.toInt + (1 : Int) := xIa (show -2147483648 ≤ x5.toInt + (1 : Int) from by omega) (show x5.toInt + (1 : Int) < 2147483648 from by omega)
      have r29_k := mf_51 J25
      have u30 : (ps_i s25 1131 51).toInt = (ps_i s 1131 51).toInt := xeq (kp_i K25 51 rfl)
      have r31_k : 0 ≤ (ps_a s25 1152 (Int32.toNatClampNeg x1)).toInt ∧ (ps_a s25 1152 (Int32.toNatClampNeg x1)).toInt ≤ 18 := ma_1152 (i := x1) J25 (show 0 ≤ x1.toInt from by omega) (show x1.toInt < 40 from by omega)
      have u32 : (ps_a s25 1152 (Int32.toNatClampNeg x1)).toInt = (ps_a s 1152 (Int32.toNatClampNeg x1)).toInt := xeq (kp_a K25 1152 rfl _)
      have r33_k : -1 ≤ (ps_a s25 1153 (Int32.toNatClampNeg x1)).toInt ∧ (ps_a s25 1153 (Int32.toNatClampNeg x1)).toInt ≤ 9999 := ma_1153 (i := x1) J25 (show 0 ≤ x1.toInt from by omega) (show x1.toInt < 40 from by omega)
      have u34 : (ps_a s25 1153 (Int32.toNatClampNeg x1)).toInt = (ps_a s 1153 (Int32.toNatClampNeg x1)).toInt := xeq (kp_a K25 1153 rfl _)
      exact ih (n - 1) (show n - 1 < n from by omega) x2 (x5 + 1) _ J25 K26 hS hC hA hO hM (show 0 ≤ x1.toInt from by omega) (show x1.toInt < 40 from by omega) (show (ps_i s0 1131 51).toInt ≤ 100 from by omega) (show (ps_i s25 1131 51).toInt = (ps_i s0 1131 51).toInt from by omega) (show (ps_a s25 1152 (Int32.toNatClampNeg x1)).toInt = 11 from by omega) (show x2.toInt = 41 * (ps_a s25 1153 (Int32.toNatClampNeg x1)).toInt from by omega) (show 0 ≤ (x5 + 1).toInt from by omega) (show (x5 + 1).toInt ≤ 12 from by omega) (show 20 - (x5 + 1).toInt ≤ ((n - 1 : Nat) : Int) from by omega)

theorem ms_257_200 {x : Nat → Nat → Nat} {t : Int32} {d : Nat} {s0 : ps_S} {σ : mSig} {x1 : Int32} {Q : Option Value → ps_S → Prop} (k : ∀ (s' : ps_S), mJ x t s' → kp [1134, 1149, 1150] [34, 50, 51] s0 s' → (As σ (ps_a s' 1134) x1.toInt (ps_i s' 1131 51).toInt) → (OutB (ps_a s0 1134) (ps_a s' 1134) x1.toInt) → ((ps_i s0 1131 51).toInt ≤ (ps_i s' 1131 51).toInt) → ((ps_i s' 1131 51).toInt ≤ (ps_i s0 1131 51).toInt + 36) → (Res σ (ps_a s' 1149) (ps_i s' 1131 34).toInt (ps_i s' 1131 50).toInt) → Q none s') (x4 : Int32) (s : ps_S) (J : mJ x t s) (K : kp [1134, 1149, 1150] [34, 50, 51] s0 s) (hS : Sg (ps_a s 1135) (ps_a s 1136) (ps_a s 1138) (ps_a s 1139) (ps_i s 1131 21).toInt σ) (hC : SC σ (ps_a s 1134) (ps_a s 1157) (ps_a s 1152) (ps_a s 1153) (ps_a s 1154) (ps_a s 1155) (ps_i s 1131 21).toInt x1.toInt) (hA : As σ (ps_a s 1134) x1.toInt (ps_i s 1131 51).toInt) (hO : OutB (ps_a s0 1134) (ps_a s 1134) x1.toInt) (i4_k : 0 ≤ x1.toInt) (i5_k : x1.toInt < 40) (i6_k : (ps_i s0 1131 51).toInt ≤ 100) (i7_k : (ps_i s 1131 51).toInt = (ps_i s0 1131 51).toInt) (i8_k : (ps_a s 1152 (Int32.toNatClampNeg x1)).toInt = 13) (i9_k : x4.toInt = 22468 + 41 * x1.toInt) : ps_At (d + 5) 257 200 [(0, .ref 1131), (1, .int x1), (4, .int x4)] [] s Q := by
  have r1_k := mf_51 J
  have r2_k : 0 ≤ (ps_a s 1152 (Int32.toNatClampNeg x1)).toInt ∧ (ps_a s 1152 (Int32.toNatClampNeg x1)).toInt ≤ 18 := ma_1152 (i := x1) J (show 0 ≤ x1.toInt from by omega) (show x1.toInt < 40 from by omega)
  refine pg_257_200 (d := d + 4) ?_
  have J3 := mwi_34 (v := (0 : Int32)) J (show 0 ≤ (0 : Int) from by omega) (show (0 : Int) ≤ 100000 from by omega)
  have K4 := kpi K (q := 34) (v := (0 : Int32)) rfl
  have hM : Md (ps_a (ps_ui s 1131 34 0) 1149) (ps_i (ps_ui s 1131 34 0) 1131 34).toInt ([] : List Nat) := Md_nil rfl
  obtain ⟨l, hl1, hl2⟩ := SC_f (j := x4) hC rfl (by omega) (by omega)
  have hlen0 := hl1.2.2.2.1
  refine ms_227 J3 (hl1) (hM) ((by rw [List.length_nil]; omega)) (fun s5 J5 K5 p5_0 => ?_)
  have K6 := kpt K4 K5 rfl rfl
  have KC := K5
  have hS : Sg (ps_a s5 1135) (ps_a s5 1136) (ps_a s5 1138) (ps_a s5 1139) (ps_i s5 1131 21).toInt σ := by rw [show ps_a s5 1135 = ps_a (ps_ui s 1131 34 0) 1135 from (K5.2 1135 rfl).1, show ps_a s5 1136 = ps_a (ps_ui s 1131 34 0) 1136 from (K5.2 1136 rfl).1, show ps_a s5 1138 = ps_a (ps_ui s 1131 34 0) 1138 from (K5.2 1138 rfl).1, show ps_a s5 1139 = ps_a (ps_ui s 1131 34 0) 1139 from (K5.2 1139 rfl).1, show ps_i s5 1131 21 = ps_i (ps_ui s 1131 34 0) 1131 21 from kp_i K5 21 rfl]; exact hS
  have hC : SC σ (ps_a s5 1134) (ps_a s5 1157) (ps_a s5 1152) (ps_a s5 1153) (ps_a s5 1154) (ps_a s5 1155) (ps_i s5 1131 21).toInt x1.toInt := by rw [show ps_a s5 1134 = ps_a (ps_ui s 1131 34 0) 1134 from (K5.2 1134 rfl).1, show ps_a s5 1157 = ps_a (ps_ui s 1131 34 0) 1157 from (K5.2 1157 rfl).1, show ps_a s5 1152 = ps_a (ps_ui s 1131 34 0) 1152 from (K5.2 1152 rfl).1, show ps_a s5 1153 = ps_a (ps_ui s 1131 34 0) 1153 from (K5.2 1153 rfl).1, show ps_a s5 1154 = ps_a (ps_ui s 1131 34 0) 1154 from (K5.2 1154 rfl).1, show ps_a s5 1155 = ps_a (ps_ui s 1131 34 0) 1155 from (K5.2 1155 rfl).1, show ps_i s5 1131 21 = ps_i (ps_ui s 1131 34 0) 1131 21 from kp_i K5 21 rfl]; exact hC
  have hA : As σ (ps_a s5 1134) x1.toInt (ps_i s5 1131 51).toInt := by rw [show ps_a s5 1134 = ps_a (ps_ui s 1131 34 0) 1134 from (K5.2 1134 rfl).1, show ps_i s5 1131 51 = ps_i (ps_ui s 1131 34 0) 1131 51 from kp_i K5 51 rfl]; exact hA
  have hO : OutB (ps_a s0 1134) (ps_a s5 1134) x1.toInt := by rw [show ps_a s5 1134 = ps_a (ps_ui s 1131 34 0) 1134 from (K5.2 1134 rfl).1]; exact hO
  have hM1 : _ := p5_0
  have r7_k := mf_51 J5
  have u8 : (ps_i s5 1131 51).toInt = (ps_i s 1131 51).toInt := xeq (kp_i K5 51 rfl)
  have r9_k : 0 ≤ (ps_a s5 1152 (Int32.toNatClampNeg x1)).toInt ∧ (ps_a s5 1152 (Int32.toNatClampNeg x1)).toInt ≤ 18 := ma_1152 (i := x1) J5 (show 0 ≤ x1.toInt from by omega) (show x1.toInt < 40 from by omega)
  have u10 : (ps_a s5 1152 (Int32.toNatClampNeg x1)).toInt = (ps_a s 1152 (Int32.toNatClampNeg x1)).toInt := xeq (kp_a K5 1152 rfl _)
  exact ms_257_281 (x1 := x1) (σ := σ) k   _ J5 K6 hS hC hA hO (show 0 ≤ x1.toInt from by omega) (show x1.toInt < 40 from by omega) (show (ps_i s0 1131 51).toInt ≤ 100 from by omega) (show (ps_i s5 1131 51).toInt = (ps_i s0 1131 51).toInt from by omega) (show 11 ≤ (ps_a s5 1152 (Int32.toNatClampNeg x1)).toInt from by omega) (show (ps_a s5 1152 (Int32.toNatClampNeg x1)).toInt ≤ 16 from by omega) (show (ps_a s5 1152 (Int32.toNatClampNeg x1)).toInt ≠ 14 from by omega) (show (ps_a s5 1152 (Int32.toNatClampNeg x1)).toInt ≠ 15 from by omega) (⟨_, hM1, by rw [List.nil_append]; omega, Or.inl (wf_ws hl2)⟩)

theorem ms_257_195 {x : Nat → Nat → Nat} {t : Int32} {d : Nat} {s0 : ps_S} {σ : mSig} {x1 : Int32} {Q : Option Value → ps_S → Prop} (k : ∀ (s' : ps_S), mJ x t s' → kp [1134, 1149, 1150] [34, 50, 51] s0 s' → (As σ (ps_a s' 1134) x1.toInt (ps_i s' 1131 51).toInt) → (OutB (ps_a s0 1134) (ps_a s' 1134) x1.toInt) → ((ps_i s0 1131 51).toInt ≤ (ps_i s' 1131 51).toInt) → ((ps_i s' 1131 51).toInt ≤ (ps_i s0 1131 51).toInt + 36) → (Res σ (ps_a s' 1149) (ps_i s' 1131 34).toInt (ps_i s' 1131 50).toInt) → Q none s') (x4 : Int32) (s : ps_S) (J : mJ x t s) (K : kp [1134, 1149, 1150] [34, 50, 51] s0 s) (hS : Sg (ps_a s 1135) (ps_a s 1136) (ps_a s 1138) (ps_a s 1139) (ps_i s 1131 21).toInt σ) (hC : SC σ (ps_a s 1134) (ps_a s 1157) (ps_a s 1152) (ps_a s 1153) (ps_a s 1154) (ps_a s 1155) (ps_i s 1131 21).toInt x1.toInt) (hA : As σ (ps_a s 1134) x1.toInt (ps_i s 1131 51).toInt) (hO : OutB (ps_a s0 1134) (ps_a s 1134) x1.toInt) (i4_k : 0 ≤ x1.toInt) (i5_k : x1.toInt < 40) (i6_k : (ps_i s0 1131 51).toInt ≤ 100) (i7_k : (ps_i s 1131 51).toInt = (ps_i s0 1131 51).toInt) (i8_k : (ps_a s 1152 (Int32.toNatClampNeg x1)).toInt = 13) (i9_k : x4.toInt = 22468 + 41 * x1.toInt) : ps_At (d + 5) 257 195 [(0, .ref 1131), (1, .int x1), (4, .int x4)] [] s Q := by
  have r1_k := mf_51 J
  have r2_k : 0 ≤ (ps_a s 1152 (Int32.toNatClampNeg x1)).toInt ∧ (ps_a s 1152 (Int32.toNatClampNeg x1)).toInt ≤ 18 := ma_1152 (i := x1) J (show 0 ≤ x1.toInt from by omega) (show x1.toInt < 40 from by omega)
  refine pg_257_195 (d := d + 4) ?_
  refine ms_241 J (show 1 ≤ (4 : Int) from by omega) (show (4 : Int) ≤ 5 from by omega) (fun s3 J3 K3 p3_0 => ?_)
  have K4 := kpt K K3 rfl rfl
  have KC := K3
  have hS : Sg (ps_a s3 1135) (ps_a s3 1136) (ps_a s3 1138) (ps_a s3 1139) (ps_i s3 1131 21).toInt σ := by rw [show ps_a s3 1135 = ps_a s 1135 from (K3.2 1135 rfl).1, show ps_a s3 1136 = ps_a s 1136 from (K3.2 1136 rfl).1, show ps_a s3 1138 = ps_a s 1138 from (K3.2 1138 rfl).1, show ps_a s3 1139 = ps_a s 1139 from (K3.2 1139 rfl).1, show ps_i s3 1131 21 = ps_i s 1131 21 from kp_i K3 21 rfl]; exact hS
  have hC : SC σ (ps_a s3 1134) (ps_a s3 1157) (ps_a s3 1152) (ps_a s3 1153) (ps_a s3 1154) (ps_a s3 1155) (ps_i s3 1131 21).toInt x1.toInt := by rw [show ps_a s3 1134 = ps_a s 1134 from (K3.2 1134 rfl).1, show ps_a s3 1157 = ps_a s 1157 from (K3.2 1157 rfl).1, show ps_a s3 1152 = ps_a s 1152 from (K3.2 1152 rfl).1, show ps_a s3 1153 = ps_a s 1153 from (K3.2 1153 rfl).1, show ps_a s3 1154 = ps_a s 1154 from (K3.2 1154 rfl).1, show ps_a s3 1155 = ps_a s 1155 from (K3.2 1155 rfl).1, show ps_i s3 1131 21 = ps_i s 1131 21 from kp_i K3 21 rfl]; exact hC
  have hA : As σ (ps_a s3 1134) x1.toInt (ps_i s3 1131 51).toInt := by rw [show ps_a s3 1134 = ps_a s 1134 from (K3.2 1134 rfl).1, show ps_i s3 1131 51 = ps_i s 1131 51 from kp_i K3 51 rfl]; exact hA
  have hO : OutB (ps_a s0 1134) (ps_a s3 1134) x1.toInt := by rw [show ps_a s3 1134 = ps_a s 1134 from (K3.2 1134 rfl).1]; exact hO
  have p3_0' : 1 ≤ (ps_i s3 1131 50).toInt := p3_0
  have r5_k := mf_50 J3
  have r6_k := mf_51 J3
  have u7 : (ps_i s3 1131 51).toInt = (ps_i s 1131 51).toInt := xeq (kp_i K3 51 rfl)
  have r8_k : 0 ≤ (ps_a s3 1152 (Int32.toNatClampNeg x1)).toInt ∧ (ps_a s3 1152 (Int32.toNatClampNeg x1)).toInt ≤ 18 := ma_1152 (i := x1) J3 (show 0 ≤ x1.toInt from by omega) (show x1.toInt < 40 from by omega)
  have u9 : (ps_a s3 1152 (Int32.toNatClampNeg x1)).toInt = (ps_a s 1152 (Int32.toNatClampNeg x1)).toInt := xeq (kp_a K3 1152 rfl _)
  exact ms_257_200 (x1 := x1) (σ := σ) k  x4 _ J3 K4 hS hC hA hO (show 0 ≤ x1.toInt from by omega) (show x1.toInt < 40 from by omega) (show (ps_i s0 1131 51).toInt ≤ 100 from by omega) (show (ps_i s3 1131 51).toInt = (ps_i s0 1131 51).toInt from by omega) (show (ps_a s3 1152 (Int32.toNatClampNeg x1)).toInt = 13 from by omega) (show x4.toInt = 22468 + 41 * x1.toInt from by omega)

theorem ms_257_177 {x : Nat → Nat → Nat} {t : Int32} {d : Nat} {s0 : ps_S} {σ : mSig} {x1 : Int32} {Q : Option Value → ps_S → Prop} (k : ∀ (s' : ps_S), mJ x t s' → kp [1134, 1149, 1150] [34, 50, 51] s0 s' → (As σ (ps_a s' 1134) x1.toInt (ps_i s' 1131 51).toInt) → (OutB (ps_a s0 1134) (ps_a s' 1134) x1.toInt) → ((ps_i s0 1131 51).toInt ≤ (ps_i s' 1131 51).toInt) → ((ps_i s' 1131 51).toInt ≤ (ps_i s0 1131 51).toInt + 36) → (Res σ (ps_a s' 1149) (ps_i s' 1131 34).toInt (ps_i s' 1131 50).toInt) → Q none s') (x2 : Int32) (x4 : Int32) (s : ps_S) (J : mJ x t s) (K : kp [1134, 1149, 1150] [34, 50, 51] s0 s) (hS : Sg (ps_a s 1135) (ps_a s 1136) (ps_a s 1138) (ps_a s 1139) (ps_i s 1131 21).toInt σ) (hC : SC σ (ps_a s 1134) (ps_a s 1157) (ps_a s 1152) (ps_a s 1153) (ps_a s 1154) (ps_a s 1155) (ps_i s 1131 21).toInt x1.toInt) (hA : As σ (ps_a s 1134) x1.toInt (ps_i s 1131 51).toInt) (hO : OutB (ps_a s0 1134) (ps_a s 1134) x1.toInt) (i4_k : 0 ≤ x1.toInt) (i5_k : x1.toInt < 40) (i6_k : (ps_i s0 1131 51).toInt ≤ 100) (i7_k : (ps_i s 1131 51).toInt = (ps_i s0 1131 51).toInt) (i8_k : (ps_a s 1152 (Int32.toNatClampNeg x1)).toInt = 13) (i9_k : x2.toInt = 41 * (ps_a s 1153 (Int32.toNatClampNeg x1)).toInt) (i10_k : x4.toInt = 22468 + 41 * x1.toInt) : ps_At (d + 5) 257 177 [(0, .ref 1131), (1, .int x1), (2, .int x2), (4, .int x4)] [] s Q := by
  have r1_k := mf_51 J
  have r2_k : 0 ≤ (ps_a s 1152 (Int32.toNatClampNeg x1)).toInt ∧ (ps_a s 1152 (Int32.toNatClampNeg x1)).toInt ≤ 18 := ma_1152 (i := x1) J (show 0 ≤ x1.toInt from by omega) (show x1.toInt < 40 from by omega)
  have r3_k : -1 ≤ (ps_a s 1153 (Int32.toNatClampNeg x1)).toInt ∧ (ps_a s 1153 (Int32.toNatClampNeg x1)).toInt ≤ 9999 := ma_1153 (i := x1) J (show 0 ≤ x1.toInt from by omega) (show x1.toInt < 40 from by omega)
  refine pg_257_177 (d := d + 4) ?_
  have q1_k := SC_l1 hC rfl ⟨by omega, by omega, by omega, by omega⟩
  have hga := ma_1153 (i := x1) J (by omega) (by omega)
  have g0 := SC_g0 hC rfl
  refine pg_247_0 ?_
  refine pg_220_0 ?_
  have a4_k : (x4 + 1).toInt = x4.toInt + (1 : Int) := xIa (show -2147483648 ≤ x4.toInt + (1 : Int) from by omega) (show x4.toInt + (1 : Int) < 2147483648 from by omega)
  have a5_k : ((x4 + 1) + 0).toInt = (x4 + 1).toInt + (0 : Int) := xIa (show -2147483648 ≤ (x4 + 1).toInt + (0 : Int) from by omega) (show (x4 + 1).toInt + (0 : Int) < 2147483648 from by omega)
  refine ps_nd_i (show pm_in ((x4 + 1) + 0) 27400 = true from xgi (show 0 ≤ ((x4 + 1) + 0).toInt from by omega) (show ((x4 + 1) + 0).toInt < 27400 from by omega)) ?_
  have r6_k : ((x4 + 1) + 0).toInt % 41 = 0 → ((x4 + 1) + 0).toInt < 27306 → 0 ≤ (ps_a s 1134 (Int32.toNatClampNeg ((x4 + 1) + 0))).toInt ∧ (ps_a s 1134 (Int32.toNatClampNeg ((x4 + 1) + 0))).toInt ≤ 40 := fun z1_k z2_k => mp_row (i := ((x4 + 1) + 0)) J z1_k (show 0 ≤ ((x4 + 1) + 0).toInt from by omega) z2_k
  refine And.intro (fun h7_k => ?_) (fun h7_k => ?_)
  · have f8_k : (ps_a s 1134 (Int32.toNatClampNeg ((x4 + 1) + 0))).toInt ≠ (5 : Int) := xne h7_k
    exact ms_257_195 (x1 := x1) (σ := σ) k  x4 _ J K hS hC hA hO (show 0 ≤ x1.toInt from by omega) (show x1.toInt < 40 from by omega) (show (ps_i s0 1131 51).toInt ≤ 100 from by omega) (show (ps_i s 1131 51).toInt = (ps_i s0 1131 51).toInt from by omega) (show (ps_a s 1152 (Int32.toNatClampNeg x1)).toInt = 13 from by omega) (show x4.toInt = 22468 + 41 * x1.toInt from by omega)
  · have f9_k : (ps_a s 1134 (Int32.toNatClampNeg ((x4 + 1) + 0))).toInt = (5 : Int) := xeq h7_k
    refine ms_230 J (show x2.toInt % 41 = 0 from by omega) (show 0 ≤ x2.toInt from by omega) (show x2.toInt < 27306 from by omega) (fun v10 b10 => ?_)
    refine And.intro (fun h11_k => ?_) (fun h11_k => ?_)
    · have f12_k : v10.toInt ≠ (0 : Int) := xne h11_k
      exact ms_257_200 (x1 := x1) (σ := σ) k  x4 _ J K hS hC hA hO (show 0 ≤ x1.toInt from by omega) (show x1.toInt < 40 from by omega) (show (ps_i s0 1131 51).toInt ≤ 100 from by omega) (show (ps_i s 1131 51).toInt = (ps_i s0 1131 51).toInt from by omega) (show (ps_a s 1152 (Int32.toNatClampNeg x1)).toInt = 13 from by omega) (show x4.toInt = 22468 + 41 * x1.toInt from by omega)
    · have f13_k : v10.toInt = (0 : Int) := xeq h11_k
      exact ms_257_195 (x1 := x1) (σ := σ) k  x4 _ J K hS hC hA hO (show 0 ≤ x1.toInt from by omega) (show x1.toInt < 40 from by omega) (show (ps_i s0 1131 51).toInt ≤ 100 from by omega) (show (ps_i s 1131 51).toInt = (ps_i s0 1131 51).toInt from by omega) (show (ps_a s 1152 (Int32.toNatClampNeg x1)).toInt = 13 from by omega) (show x4.toInt = 22468 + 41 * x1.toInt from by omega)

theorem ms_257_275 {x : Nat → Nat → Nat} {t : Int32} {d : Nat} {s0 : ps_S} {σ : mSig} {x1 : Int32} {Q : Option Value → ps_S → Prop} (k : ∀ (s' : ps_S), mJ x t s' → kp [1134, 1149, 1150] [34, 50, 51] s0 s' → (As σ (ps_a s' 1134) x1.toInt (ps_i s' 1131 51).toInt) → (OutB (ps_a s0 1134) (ps_a s' 1134) x1.toInt) → ((ps_i s0 1131 51).toInt ≤ (ps_i s' 1131 51).toInt) → ((ps_i s' 1131 51).toInt ≤ (ps_i s0 1131 51).toInt + 36) → (Res σ (ps_a s' 1149) (ps_i s' 1131 34).toInt (ps_i s' 1131 50).toInt) → Q none s') (x4 : Int32) (s : ps_S) (J : mJ x t s) (K : kp [1134, 1149, 1150] [34, 50, 51] s0 s) (hS : Sg (ps_a s 1135) (ps_a s 1136) (ps_a s 1138) (ps_a s 1139) (ps_i s 1131 21).toInt σ) (hC : SC σ (ps_a s 1134) (ps_a s 1157) (ps_a s 1152) (ps_a s 1153) (ps_a s 1154) (ps_a s 1155) (ps_i s 1131 21).toInt x1.toInt) (hA : As σ (ps_a s 1134) x1.toInt (ps_i s 1131 51).toInt) (hO : OutB (ps_a s0 1134) (ps_a s 1134) x1.toInt) (hM : Md (ps_a s 1149) (ps_i s 1131 34).toInt ([] : List Nat)) (i5_k : 0 ≤ x1.toInt) (i6_k : x1.toInt < 40) (i7_k : (ps_i s0 1131 51).toInt ≤ 100) (i8_k : (ps_i s 1131 51).toInt = (ps_i s0 1131 51).toInt) (i9_k : (ps_a s 1152 (Int32.toNatClampNeg x1)).toInt = 16) (i10_k : x4.toInt = 22468 + 41 * x1.toInt) : ps_At (d + 5) 257 275 [(0, .ref 1131), (1, .int x1), (4, .int x4)] [] s Q := by
  have r1_k := mf_51 J
  have r2_k : 0 ≤ (ps_a s 1152 (Int32.toNatClampNeg x1)).toInt ∧ (ps_a s 1152 (Int32.toNatClampNeg x1)).toInt ≤ 18 := ma_1152 (i := x1) J (show 0 ≤ x1.toInt from by omega) (show x1.toInt < 40 from by omega)
  refine pg_257_275 (d := d + 4) ?_
  obtain ⟨l, hl1, hl2⟩ := SC_f (j := x4) hC rfl (by omega) (by omega)
  have hlen0 := hl1.2.2.2.1
  refine ms_227 J (hl1) (hM) ((by rw [List.length_nil]; omega)) (fun s3 J3 K3 p3_0 => ?_)
  have K4 := kpt K K3 rfl rfl
  have KC := K3
  have hS : Sg (ps_a s3 1135) (ps_a s3 1136) (ps_a s3 1138) (ps_a s3 1139) (ps_i s3 1131 21).toInt σ := by rw [show ps_a s3 1135 = ps_a s 1135 from (K3.2 1135 rfl).1, show ps_a s3 1136 = ps_a s 1136 from (K3.2 1136 rfl).1, show ps_a s3 1138 = ps_a s 1138 from (K3.2 1138 rfl).1, show ps_a s3 1139 = ps_a s 1139 from (K3.2 1139 rfl).1, show ps_i s3 1131 21 = ps_i s 1131 21 from kp_i K3 21 rfl]; exact hS
  have hC : SC σ (ps_a s3 1134) (ps_a s3 1157) (ps_a s3 1152) (ps_a s3 1153) (ps_a s3 1154) (ps_a s3 1155) (ps_i s3 1131 21).toInt x1.toInt := by rw [show ps_a s3 1134 = ps_a s 1134 from (K3.2 1134 rfl).1, show ps_a s3 1157 = ps_a s 1157 from (K3.2 1157 rfl).1, show ps_a s3 1152 = ps_a s 1152 from (K3.2 1152 rfl).1, show ps_a s3 1153 = ps_a s 1153 from (K3.2 1153 rfl).1, show ps_a s3 1154 = ps_a s 1154 from (K3.2 1154 rfl).1, show ps_a s3 1155 = ps_a s 1155 from (K3.2 1155 rfl).1, show ps_i s3 1131 21 = ps_i s 1131 21 from kp_i K3 21 rfl]; exact hC
  have hA : As σ (ps_a s3 1134) x1.toInt (ps_i s3 1131 51).toInt := by rw [show ps_a s3 1134 = ps_a s 1134 from (K3.2 1134 rfl).1, show ps_i s3 1131 51 = ps_i s 1131 51 from kp_i K3 51 rfl]; exact hA
  have hO : OutB (ps_a s0 1134) (ps_a s3 1134) x1.toInt := by rw [show ps_a s3 1134 = ps_a s 1134 from (K3.2 1134 rfl).1]; exact hO
  have hM1 : _ := p3_0
  have r5_k := mf_51 J3
  have u6 : (ps_i s3 1131 51).toInt = (ps_i s 1131 51).toInt := xeq (kp_i K3 51 rfl)
  have r7_k : 0 ≤ (ps_a s3 1152 (Int32.toNatClampNeg x1)).toInt ∧ (ps_a s3 1152 (Int32.toNatClampNeg x1)).toInt ≤ 18 := ma_1152 (i := x1) J3 (show 0 ≤ x1.toInt from by omega) (show x1.toInt < 40 from by omega)
  have u8 : (ps_a s3 1152 (Int32.toNatClampNeg x1)).toInt = (ps_a s 1152 (Int32.toNatClampNeg x1)).toInt := xeq (kp_a K3 1152 rfl _)
  exact ms_257_281 (x1 := x1) (σ := σ) k   _ J3 K4 hS hC hA hO (show 0 ≤ x1.toInt from by omega) (show x1.toInt < 40 from by omega) (show (ps_i s0 1131 51).toInt ≤ 100 from by omega) (show (ps_i s3 1131 51).toInt = (ps_i s0 1131 51).toInt from by omega) (show 11 ≤ (ps_a s3 1152 (Int32.toNatClampNeg x1)).toInt from by omega) (show (ps_a s3 1152 (Int32.toNatClampNeg x1)).toInt ≤ 16 from by omega) (show (ps_a s3 1152 (Int32.toNatClampNeg x1)).toInt ≠ 14 from by omega) (show (ps_a s3 1152 (Int32.toNatClampNeg x1)).toInt ≠ 15 from by omega) (⟨_, hM1, by rw [List.nil_append]; omega, Or.inl (wf_ws hl2)⟩)

theorem ms_257 {x : Nat → Nat → Nat} {t : Int32} {s : ps_S} {d : Nat} {x1 : Int32} {f : ps_S → Prop} (J : mJ x t s) {σ : mSig} (hS : Sg (ps_a s 1135) (ps_a s 1136) (ps_a s 1138) (ps_a s 1139) (ps_i s 1131 21).toInt σ) (hC : SC σ (ps_a s 1134) (ps_a s 1157) (ps_a s 1152) (ps_a s 1153) (ps_a s 1154) (ps_a s 1155) (ps_i s 1131 21).toInt x1.toInt) (hA : As σ (ps_a s 1134) x1.toInt (ps_i s 1131 51).toInt) (hM : Md (ps_a s 1149) (ps_i s 1131 34).toInt ([] : List Nat)) (q4_k : 0 ≤ x1.toInt) (q5_k : x1.toInt < 40) (q6_k : (ps_i s 1131 51).toInt ≤ 100) (q7_k : 11 ≤ (ps_a s 1152 (Int32.toNatClampNeg x1)).toInt) (q8_k : (ps_a s 1152 (Int32.toNatClampNeg x1)).toInt ≤ 16) (k : ∀ (s' : ps_S), mJ x t s' → kp [1134, 1149, 1150] [34, 50, 51] s s' → (As σ (ps_a s' 1134) x1.toInt (ps_i s' 1131 51).toInt) → (OutB (ps_a s 1134) (ps_a s' 1134) x1.toInt) → ((ps_i s 1131 51).toInt ≤ (ps_i s' 1131 51).toInt) → ((ps_i s' 1131 51).toInt ≤ (ps_i s 1131 51).toInt + 36) → (Res σ (ps_a s' 1149) (ps_i s' 1131 34).toInt (ps_i s' 1131 50).toInt) → f s') : ps_Cl (d + 5) 257 [.ref 1131, .int x1] s (ps_rV f) := by
  have r1_k := mf_51 J
  have r2_k : 0 ≤ (ps_a s 1152 (Int32.toNatClampNeg x1)).toInt ∧ (ps_a s 1152 (Int32.toNatClampNeg x1)).toInt ≤ 18 := ma_1152 (i := x1) J (show 0 ≤ x1.toInt from by omega) (show x1.toInt < 40 from by omega)
  have K : kp [1134, 1149, 1150] [34, 50, 51] s s := kp_refl
  refine pg_257_0 (d := d + 4) ?_
  have hO : OutB (ps_a s 1134) (ps_a s 1134) x1.toInt := OutB_refl
  have h34_k : (ps_i s 1131 34).toInt = 0 := hM.1
  refine pg_244_0 ?_
  refine ps_nd_i (show pm_in x1 40 = true from xgi (show 0 ≤ x1.toInt from by omega) (show x1.toInt < 40 from by omega)) ?_
  have r3_k : -1 ≤ (ps_a s 1153 (Int32.toNatClampNeg x1)).toInt ∧ (ps_a s 1153 (Int32.toNatClampNeg x1)).toInt ≤ 9999 := ma_1153 (i := x1) J (show 0 ≤ x1.toInt from by omega) (show x1.toInt < 40 from by omega)
  refine pg_242_0 ?_
  have a4_k : ((41 : Int32) * (ps_a s 1153 (Int32.toNatClampNeg x1))).toInt = (41 : Int) * (ps_a s 1153 (Int32.toNatClampNeg x1)).toInt := xIm (show -2147483648 ≤ (41 : Int) * (ps_a s 1153 (Int32.toNatClampNeg x1)).toInt from by omega) (show (41 : Int) * (ps_a s 1153 (Int32.toNatClampNeg x1)).toInt < 2147483648 from by omega)
  have a5_k : ((0 : Int32) + ((41 : Int32) * (ps_a s 1153 (Int32.toNatClampNeg x1)))).toInt = (0 : Int) + ((41 : Int32) * (ps_a s 1153 (Int32.toNatClampNeg x1))).toInt := xIa (show -2147483648 ≤ (0 : Int) + ((41 : Int32) * (ps_a s 1153 (Int32.toNatClampNeg x1))).toInt from by omega) (show (0 : Int) + ((41 : Int32) * (ps_a s 1153 (Int32.toNatClampNeg x1))).toInt < 2147483648 from by omega)
  have a6_k : ((41 : Int32) * x1).toInt = (41 : Int) * x1.toInt := xIm (show -2147483648 ≤ (41 : Int) * x1.toInt from by omega) (show (41 : Int) * x1.toInt < 2147483648 from by omega)
  have a7_k : ((24108 : Int32) + ((41 : Int32) * x1)).toInt = (24108 : Int) + ((41 : Int32) * x1).toInt := xIa (show -2147483648 ≤ (24108 : Int) + ((41 : Int32) * x1).toInt from by omega) (show (24108 : Int) + ((41 : Int32) * x1).toInt < 2147483648 from by omega)
  have a8_k : ((22468 : Int32) + ((41 : Int32) * x1)).toInt = (22468 : Int) + ((41 : Int32) * x1).toInt := xIa (show -2147483648 ≤ (22468 : Int) + ((41 : Int32) * x1).toInt from by omega) (show (22468 : Int) + ((41 : Int32) * x1).toInt < 2147483648 from by omega)
  refine ps_nd_i (show pm_in x1 40 = true from xgi (show 0 ≤ x1.toInt from by omega) (show x1.toInt < 40 from by omega)) ?_
  refine And.intro (fun h9_k => ?_) (fun h9_k => ?_)
  · have f10_k : (ps_a s 1152 (Int32.toNatClampNeg x1)).toInt = (11 : Int) := xeq h9_k
    exact ms_257_67 (x1 := x1) (σ := σ) k  (20 - (0 : Int)).toNat ((0 : Int32) + ((41 : Int32) * (ps_a s 1153 (Int32.toNatClampNeg x1)))) (0) _ J K hS hC hA hO hM (show 0 ≤ x1.toInt from by omega) (show x1.toInt < 40 from by omega) (show (ps_i s 1131 51).toInt ≤ 100 from by omega) (show (ps_i s 1131 51).toInt = (ps_i s 1131 51).toInt from by omega) (show (ps_a s 1152 (Int32.toNatClampNeg x1)).toInt = 11 from by omega) (show ((0 : Int32) + ((41 : Int32) * (ps_a s 1153 (Int32.toNatClampNeg x1)))).toInt = 41 * (ps_a s 1153 (Int32.toNatClampNeg x1)).toInt from by omega) (show 0 ≤ (0 : Int) from by omega) (show (0 : Int) ≤ 12 from by omega) (show 20 - (0 : Int) ≤ (((20 - (0 : Int)).toNat : Nat) : Int) from by omega)
  have f11_k : (ps_a s 1152 (Int32.toNatClampNeg x1)).toInt ≠ (11 : Int) := xne h9_k
  refine And.intro (fun h12_k => ?_) (fun h12_k => ?_)
  · have f13_k : (ps_a s 1152 (Int32.toNatClampNeg x1)).toInt = (12 : Int) := xeq h12_k
    obtain ⟨l, hl1, hl2⟩ := SC_1i hC rfl ⟨by omega, by omega, by omega, by omega⟩
    have hl1 : Rw (ps_a s 1134) (((0 : Int32) + ((41 : Int32) * (ps_a s 1153 (Int32.toNatClampNeg x1))))).toInt l := by rw [show (((0 : Int32) + ((41 : Int32) * (ps_a s 1153 (Int32.toNatClampNeg x1))))).toInt = 41 * (ps_a s 1153 (Int32.toNatClampNeg x1)).toInt from by omega]; exact hl1
    have hlen0 := hl1.2.2.2.1
    have w1 := hl1.1
    have w2 := hl1.2.1
    have w3 := hl1.2.2.1
    obtain ⟨c, l3, rfl⟩ := wf_ne hl2
    have hp_k := Rw_p (l1 := []) (i := 0) hl1 rfl rfl
    refine pg_247_0 ?_
    refine pg_220_0 ?_
    have a14_k : (((0 : Int32) + ((41 : Int32) * (ps_a s 1153 (Int32.toNatClampNeg x1)))) + 1).toInt = ((0 : Int32) + ((41 : Int32) * (ps_a s 1153 (Int32.toNatClampNeg x1)))).toInt + (1 : Int) := xIa (show -2147483648 ≤ ((0 : Int32) + ((41 : Int32) * (ps_a s 1153 (Int32.toNatClampNeg x1)))).toInt + (1 : Int) from by omega) (show ((0 : Int32) + ((41 : Int32) * (ps_a s 1153 (Int32.toNatClampNeg x1)))).toInt + (1 : Int) < 2147483648 from by omega)
    have a15_k : ((((0 : Int32) + ((41 : Int32) * (ps_a s 1153 (Int32.toNatClampNeg x1)))) + 1) + 0).toInt = (((0 : Int32) + ((41 : Int32) * (ps_a s 1153 (Int32.toNatClampNeg x1)))) + 1).toInt + (0 : Int) := xIa (show -2147483648 ≤ (((0 : Int32) + ((41 : Int32) * (ps_a s 1153 (Int32.toNatClampNeg x1)))) + 1).toInt + (0 : Int) from by omega) (show (((0 : Int32) + ((41 : Int32) * (ps_a s 1153 (Int32.toNatClampNeg x1)))) + 1).toInt + (0 : Int) < 2147483648 from by omega)
    refine ps_nd_i (show pm_in ((((0 : Int32) + ((41 : Int32) * (ps_a s 1153 (Int32.toNatClampNeg x1)))) + 1) + 0) 27400 = true from xgi (show 0 ≤ ((((0 : Int32) + ((41 : Int32) * (ps_a s 1153 (Int32.toNatClampNeg x1)))) + 1) + 0).toInt from by omega) (show ((((0 : Int32) + ((41 : Int32) * (ps_a s 1153 (Int32.toNatClampNeg x1)))) + 1) + 0).toInt < 27400 from by omega)) ?_
    have r16_k : ((((0 : Int32) + ((41 : Int32) * (ps_a s 1153 (Int32.toNatClampNeg x1)))) + 1) + 0).toInt % 41 = 0 → ((((0 : Int32) + ((41 : Int32) * (ps_a s 1153 (Int32.toNatClampNeg x1)))) + 1) + 0).toInt < 27306 → 0 ≤ (ps_a s 1134 (Int32.toNatClampNeg ((((0 : Int32) + ((41 : Int32) * (ps_a s 1153 (Int32.toNatClampNeg x1)))) + 1) + 0))).toInt ∧ (ps_a s 1134 (Int32.toNatClampNeg ((((0 : Int32) + ((41 : Int32) * (ps_a s 1153 (Int32.toNatClampNeg x1)))) + 1) + 0))).toInt ≤ 40 := fun z1_k z2_k => mp_row (i := ((((0 : Int32) + ((41 : Int32) * (ps_a s 1153 (Int32.toNatClampNeg x1)))) + 1) + 0)) J z1_k (show 0 ≤ ((((0 : Int32) + ((41 : Int32) * (ps_a s 1153 (Int32.toNatClampNeg x1)))) + 1) + 0).toInt from by omega) z2_k
    refine And.intro (fun h17_k => ?_) (fun h17_k => ?_)
    · have f18_k : (ps_a s 1134 (Int32.toNatClampNeg ((((0 : Int32) + ((41 : Int32) * (ps_a s 1153 (Int32.toNatClampNeg x1)))) + 1) + 0))).toInt = (4 : Int) := xeq h17_k
      have hc1 : c = 4 := by omega
      subst hc1
      obtain ⟨ks_k, hk_k, hw2⟩ := ws_hd (show ws σ (4 :: l3) [true] from wf_ws hl2)
      rw [kS_f1 (Or.inl rfl)] at hk_k
      cases hk_k
      obtain ⟨tl_k, ht1, ht2⟩ := SC_t (j := ((24108 : Int32) + ((41 : Int32) * x1))) hC rfl (by omega) (by omega)
      refine ms_231 J hS (hl1) ((Or.inr ⟨by omega, tl_k, ht1, wf_ws ht2⟩)) (hM) ((by decide)) ((show ws σ l3 [true] from hw2)) (fun s19 J19 K19 p19_0 => ?_)
      have K20 := kpt K K19 rfl rfl
      have KC := K19
      have hS : Sg (ps_a s19 1135) (ps_a s19 1136) (ps_a s19 1138) (ps_a s19 1139) (ps_i s19 1131 21).toInt σ := by rw [show ps_a s19 1135 = ps_a s 1135 from (K19.2 1135 rfl).1, show ps_a s19 1136 = ps_a s 1136 from (K19.2 1136 rfl).1, show ps_a s19 1138 = ps_a s 1138 from (K19.2 1138 rfl).1, show ps_a s19 1139 = ps_a s 1139 from (K19.2 1139 rfl).1, show ps_i s19 1131 21 = ps_i s 1131 21 from kp_i K19 21 rfl]; exact hS
      have hC : SC σ (ps_a s19 1134) (ps_a s19 1157) (ps_a s19 1152) (ps_a s19 1153) (ps_a s19 1154) (ps_a s19 1155) (ps_i s19 1131 21).toInt x1.toInt := by rw [show ps_a s19 1134 = ps_a s 1134 from (K19.2 1134 rfl).1, show ps_a s19 1157 = ps_a s 1157 from (K19.2 1157 rfl).1, show ps_a s19 1152 = ps_a s 1152 from (K19.2 1152 rfl).1, show ps_a s19 1153 = ps_a s 1153 from (K19.2 1153 rfl).1, show ps_a s19 1154 = ps_a s 1154 from (K19.2 1154 rfl).1, show ps_a s19 1155 = ps_a s 1155 from (K19.2 1155 rfl).1, show ps_i s19 1131 21 = ps_i s 1131 21 from kp_i K19 21 rfl]; exact hC
      have hA : As σ (ps_a s19 1134) x1.toInt (ps_i s19 1131 51).toInt := by rw [show ps_a s19 1134 = ps_a s 1134 from (K19.2 1134 rfl).1, show ps_i s19 1131 51 = ps_i s 1131 51 from kp_i K19 51 rfl]; exact hA
      have hO : OutB (ps_a s 1134) (ps_a s19 1134) x1.toInt := by rw [show ps_a s19 1134 = ps_a s 1134 from (K19.2 1134 rfl).1]; exact hO
      have hG : _ := p19_0
      have r21_k := mf_51 J19
      have u22 : (ps_i s19 1131 51).toInt = (ps_i s 1131 51).toInt := xeq (kp_i K19 51 rfl)
      have r23_k : 0 ≤ (ps_a s19 1152 (Int32.toNatClampNeg x1)).toInt ∧ (ps_a s19 1152 (Int32.toNatClampNeg x1)).toInt ≤ 18 := ma_1152 (i := x1) J19 (show 0 ≤ x1.toInt from by omega) (show x1.toInt < 40 from by omega)
      have u24 : (ps_a s19 1152 (Int32.toNatClampNeg x1)).toInt = (ps_a s 1152 (Int32.toNatClampNeg x1)).toInt := xeq (kp_a K19 1152 rfl _)
      exact ms_257_281 (x1 := x1) (σ := σ) k   _ J19 K20 hS hC hA hO (show 0 ≤ x1.toInt from by omega) (show x1.toInt < 40 from by omega) (show (ps_i s 1131 51).toInt ≤ 100 from by omega) (show (ps_i s19 1131 51).toInt = (ps_i s 1131 51).toInt from by omega) (show 11 ≤ (ps_a s19 1152 (Int32.toNatClampNeg x1)).toInt from by omega) (show (ps_a s19 1152 (Int32.toNatClampNeg x1)).toInt ≤ 16 from by omega) (show (ps_a s19 1152 (Int32.toNatClampNeg x1)).toInt ≠ 14 from by omega) (show (ps_a s19 1152 (Int32.toNatClampNeg x1)).toInt ≠ 15 from by omega) ((by obtain ⟨m, g1, g2, g3⟩ := hG; exact ⟨_, g3, by rw [List.nil_append]; omega, Or.inl (show ws σ m [true] from rp_ws (Sg_σ hS) g2 hw2)⟩))
    · have f25_k : (ps_a s 1134 (Int32.toNatClampNeg ((((0 : Int32) + ((41 : Int32) * (ps_a s 1153 (Int32.toNatClampNeg x1)))) + 1) + 0))).toInt ≠ (4 : Int) := xne h17_k
      refine ms_241 J (show 1 ≤ (2 : Int) from by omega) (show (2 : Int) ≤ 5 from by omega) (fun s26 J26 K26 p26_0 => ?_)
      have K27 := kpt K K26 rfl rfl
      have KC := K26
      have hS : Sg (ps_a s26 1135) (ps_a s26 1136) (ps_a s26 1138) (ps_a s26 1139) (ps_i s26 1131 21).toInt σ := by rw [show ps_a s26 1135 = ps_a s 1135 from (K26.2 1135 rfl).1, show ps_a s26 1136 = ps_a s 1136 from (K26.2 1136 rfl).1, show ps_a s26 1138 = ps_a s 1138 from (K26.2 1138 rfl).1, show ps_a s26 1139 = ps_a s 1139 from (K26.2 1139 rfl).1, show ps_i s26 1131 21 = ps_i s 1131 21 from kp_i K26 21 rfl]; exact hS
      have hC : SC σ (ps_a s26 1134) (ps_a s26 1157) (ps_a s26 1152) (ps_a s26 1153) (ps_a s26 1154) (ps_a s26 1155) (ps_i s26 1131 21).toInt x1.toInt := by rw [show ps_a s26 1134 = ps_a s 1134 from (K26.2 1134 rfl).1, show ps_a s26 1157 = ps_a s 1157 from (K26.2 1157 rfl).1, show ps_a s26 1152 = ps_a s 1152 from (K26.2 1152 rfl).1, show ps_a s26 1153 = ps_a s 1153 from (K26.2 1153 rfl).1, show ps_a s26 1154 = ps_a s 1154 from (K26.2 1154 rfl).1, show ps_a s26 1155 = ps_a s 1155 from (K26.2 1155 rfl).1, show ps_i s26 1131 21 = ps_i s 1131 21 from kp_i K26 21 rfl]; exact hC
      have hA : As σ (ps_a s26 1134) x1.toInt (ps_i s26 1131 51).toInt := by rw [show ps_a s26 1134 = ps_a s 1134 from (K26.2 1134 rfl).1, show ps_i s26 1131 51 = ps_i s 1131 51 from kp_i K26 51 rfl]; exact hA
      have hM : Md (ps_a s26 1149) (ps_i s26 1131 34).toInt ([] : List Nat) := by rw [show ps_a s26 1149 = ps_a s 1149 from (K26.2 1149 rfl).1, show ps_i s26 1131 34 = ps_i s 1131 34 from kp_i K26 34 rfl]; exact hM
      have hO : OutB (ps_a s 1134) (ps_a s26 1134) x1.toInt := by rw [show ps_a s26 1134 = ps_a s 1134 from (K26.2 1134 rfl).1]; exact hO
      have p26_0' : 1 ≤ (ps_i s26 1131 50).toInt := p26_0
      have r28_k := mf_50 J26
      have r29_k := mf_51 J26
      have u30 : (ps_i s26 1131 51).toInt = (ps_i s 1131 51).toInt := xeq (kp_i K26 51 rfl)
      have r31_k : 0 ≤ (ps_a s26 1152 (Int32.toNatClampNeg x1)).toInt ∧ (ps_a s26 1152 (Int32.toNatClampNeg x1)).toInt ≤ 18 := ma_1152 (i := x1) J26 (show 0 ≤ x1.toInt from by omega) (show x1.toInt < 40 from by omega)
      have u32 : (ps_a s26 1152 (Int32.toNatClampNeg x1)).toInt = (ps_a s 1152 (Int32.toNatClampNeg x1)).toInt := xeq (kp_a K26 1152 rfl _)
      exact ms_257_281 (x1 := x1) (σ := σ) k   _ J26 K27 hS hC hA hO (show 0 ≤ x1.toInt from by omega) (show x1.toInt < 40 from by omega) (show (ps_i s 1131 51).toInt ≤ 100 from by omega) (show (ps_i s26 1131 51).toInt = (ps_i s 1131 51).toInt from by omega) (show 11 ≤ (ps_a s26 1152 (Int32.toNatClampNeg x1)).toInt from by omega) (show (ps_a s26 1152 (Int32.toNatClampNeg x1)).toInt ≤ 16 from by omega) (show (ps_a s26 1152 (Int32.toNatClampNeg x1)).toInt ≠ 14 from by omega) (show (ps_a s26 1152 (Int32.toNatClampNeg x1)).toInt ≠ 15 from by omega) (⟨[], hM, by decide, Or.inr ⟨rfl, show 1 ≤ (ps_i s26 1131 50).toInt from by omega⟩⟩)
  have f33_k : (ps_a s 1152 (Int32.toNatClampNeg x1)).toInt ≠ (12 : Int) := xne h12_k
  refine And.intro (fun h34_k => ?_) (fun h34_k => ?_)
  · have f35_k : (ps_a s 1152 (Int32.toNatClampNeg x1)).toInt = (13 : Int) := xeq h34_k
    obtain ⟨l, hl1, hl2⟩ := SC_f (j := ((22468 : Int32) + ((41 : Int32) * x1))) hC rfl (by omega) (by omega)
    have w1 := hl1.1
    have w2 := hl1.2.1
    have w3 := hl1.2.2.1
    obtain ⟨c, l3, rfl⟩ := wf_ne hl2
    have hp_k := Rw_p (l1 := []) (i := 0) hl1 rfl rfl
    refine pg_247_0 ?_
    refine pg_220_0 ?_
    have a36_k : (((22468 : Int32) + ((41 : Int32) * x1)) + 1).toInt = ((22468 : Int32) + ((41 : Int32) * x1)).toInt + (1 : Int) := xIa (show -2147483648 ≤ ((22468 : Int32) + ((41 : Int32) * x1)).toInt + (1 : Int) from by omega) (show ((22468 : Int32) + ((41 : Int32) * x1)).toInt + (1 : Int) < 2147483648 from by omega)
    have a37_k : ((((22468 : Int32) + ((41 : Int32) * x1)) + 1) + 0).toInt = (((22468 : Int32) + ((41 : Int32) * x1)) + 1).toInt + (0 : Int) := xIa (show -2147483648 ≤ (((22468 : Int32) + ((41 : Int32) * x1)) + 1).toInt + (0 : Int) from by omega) (show (((22468 : Int32) + ((41 : Int32) * x1)) + 1).toInt + (0 : Int) < 2147483648 from by omega)
    refine ps_nd_i (show pm_in ((((22468 : Int32) + ((41 : Int32) * x1)) + 1) + 0) 27400 = true from xgi (show 0 ≤ ((((22468 : Int32) + ((41 : Int32) * x1)) + 1) + 0).toInt from by omega) (show ((((22468 : Int32) + ((41 : Int32) * x1)) + 1) + 0).toInt < 27400 from by omega)) ?_
    have r38_k : ((((22468 : Int32) + ((41 : Int32) * x1)) + 1) + 0).toInt % 41 = 0 → ((((22468 : Int32) + ((41 : Int32) * x1)) + 1) + 0).toInt < 27306 → 0 ≤ (ps_a s 1134 (Int32.toNatClampNeg ((((22468 : Int32) + ((41 : Int32) * x1)) + 1) + 0))).toInt ∧ (ps_a s 1134 (Int32.toNatClampNeg ((((22468 : Int32) + ((41 : Int32) * x1)) + 1) + 0))).toInt ≤ 40 := fun z1_k z2_k => mp_row (i := ((((22468 : Int32) + ((41 : Int32) * x1)) + 1) + 0)) J z1_k (show 0 ≤ ((((22468 : Int32) + ((41 : Int32) * x1)) + 1) + 0).toInt from by omega) z2_k
    refine And.intro (fun h39_k => ?_) (fun h39_k => ?_)
    · have f40_k : (ps_a s 1134 (Int32.toNatClampNeg ((((22468 : Int32) + ((41 : Int32) * x1)) + 1) + 0))).toInt ≠ (5 : Int) := xne h39_k
      exact ms_257_177 (x1 := x1) (σ := σ) k  ((0 : Int32) + ((41 : Int32) * (ps_a s 1153 (Int32.toNatClampNeg x1)))) ((22468 : Int32) + ((41 : Int32) * x1)) _ J K hS hC hA hO (show 0 ≤ x1.toInt from by omega) (show x1.toInt < 40 from by omega) (show (ps_i s 1131 51).toInt ≤ 100 from by omega) (show (ps_i s 1131 51).toInt = (ps_i s 1131 51).toInt from by omega) (show (ps_a s 1152 (Int32.toNatClampNeg x1)).toInt = 13 from by omega) (show ((0 : Int32) + ((41 : Int32) * (ps_a s 1153 (Int32.toNatClampNeg x1)))).toInt = 41 * (ps_a s 1153 (Int32.toNatClampNeg x1)).toInt from by omega) (show ((22468 : Int32) + ((41 : Int32) * x1)).toInt = 22468 + 41 * x1.toInt from by omega)
    · have f41_k : (ps_a s 1134 (Int32.toNatClampNeg ((((22468 : Int32) + ((41 : Int32) * x1)) + 1) + 0))).toInt = (5 : Int) := xeq h39_k
      have hc1 : c = 5 := by omega
      subst hc1
      obtain ⟨ks_k, hk_k, hw2⟩ := ws_hd (show ws σ (5 :: l3) [true] from wf_ws hl2)
      rw [kS_f1 (Or.inr rfl)] at hk_k
      cases hk_k
      obtain ⟨tl_k, ht1, ht2⟩ := SC_t (j := ((24108 : Int32) + ((41 : Int32) * x1))) hC rfl (by omega) (by omega)
      refine ms_231 J hS (hl1) ((Or.inr ⟨by omega, tl_k, ht1, wf_ws ht2⟩)) (hM) ((by decide)) ((show ws σ l3 [true] from hw2)) (fun s42 J42 K42 p42_0 => ?_)
      have K43 := kpt K K42 rfl rfl
      have KC := K42
      have hS : Sg (ps_a s42 1135) (ps_a s42 1136) (ps_a s42 1138) (ps_a s42 1139) (ps_i s42 1131 21).toInt σ := by rw [show ps_a s42 1135 = ps_a s 1135 from (K42.2 1135 rfl).1, show ps_a s42 1136 = ps_a s 1136 from (K42.2 1136 rfl).1, show ps_a s42 1138 = ps_a s 1138 from (K42.2 1138 rfl).1, show ps_a s42 1139 = ps_a s 1139 from (K42.2 1139 rfl).1, show ps_i s42 1131 21 = ps_i s 1131 21 from kp_i K42 21 rfl]; exact hS
      have hC : SC σ (ps_a s42 1134) (ps_a s42 1157) (ps_a s42 1152) (ps_a s42 1153) (ps_a s42 1154) (ps_a s42 1155) (ps_i s42 1131 21).toInt x1.toInt := by rw [show ps_a s42 1134 = ps_a s 1134 from (K42.2 1134 rfl).1, show ps_a s42 1157 = ps_a s 1157 from (K42.2 1157 rfl).1, show ps_a s42 1152 = ps_a s 1152 from (K42.2 1152 rfl).1, show ps_a s42 1153 = ps_a s 1153 from (K42.2 1153 rfl).1, show ps_a s42 1154 = ps_a s 1154 from (K42.2 1154 rfl).1, show ps_a s42 1155 = ps_a s 1155 from (K42.2 1155 rfl).1, show ps_i s42 1131 21 = ps_i s 1131 21 from kp_i K42 21 rfl]; exact hC
      have hA : As σ (ps_a s42 1134) x1.toInt (ps_i s42 1131 51).toInt := by rw [show ps_a s42 1134 = ps_a s 1134 from (K42.2 1134 rfl).1, show ps_i s42 1131 51 = ps_i s 1131 51 from kp_i K42 51 rfl]; exact hA
      have hO : OutB (ps_a s 1134) (ps_a s42 1134) x1.toInt := by rw [show ps_a s42 1134 = ps_a s 1134 from (K42.2 1134 rfl).1]; exact hO
      have r44_k := mf_51 J42
      have u45 : (ps_i s42 1131 51).toInt = (ps_i s 1131 51).toInt := xeq (kp_i K42 51 rfl)
      have r46_k : 0 ≤ (ps_a s42 1152 (Int32.toNatClampNeg x1)).toInt ∧ (ps_a s42 1152 (Int32.toNatClampNeg x1)).toInt ≤ 18 := ma_1152 (i := x1) J42 (show 0 ≤ x1.toInt from by omega) (show x1.toInt < 40 from by omega)
      have u47 : (ps_a s42 1152 (Int32.toNatClampNeg x1)).toInt = (ps_a s 1152 (Int32.toNatClampNeg x1)).toInt := xeq (kp_a K42 1152 rfl _)
      have r48_k : -1 ≤ (ps_a s42 1153 (Int32.toNatClampNeg x1)).toInt ∧ (ps_a s42 1153 (Int32.toNatClampNeg x1)).toInt ≤ 9999 := ma_1153 (i := x1) J42 (show 0 ≤ x1.toInt from by omega) (show x1.toInt < 40 from by omega)
      have u49 : (ps_a s42 1153 (Int32.toNatClampNeg x1)).toInt = (ps_a s 1153 (Int32.toNatClampNeg x1)).toInt := xeq (kp_a K42 1153 rfl _)
      exact ms_257_177 (x1 := x1) (σ := σ) k  ((0 : Int32) + ((41 : Int32) * (ps_a s 1153 (Int32.toNatClampNeg x1)))) ((22468 : Int32) + ((41 : Int32) * x1)) _ J42 K43 hS hC hA hO (show 0 ≤ x1.toInt from by omega) (show x1.toInt < 40 from by omega) (show (ps_i s 1131 51).toInt ≤ 100 from by omega) (show (ps_i s42 1131 51).toInt = (ps_i s 1131 51).toInt from by omega) (show (ps_a s42 1152 (Int32.toNatClampNeg x1)).toInt = 13 from by omega) (show ((0 : Int32) + ((41 : Int32) * (ps_a s 1153 (Int32.toNatClampNeg x1)))).toInt = 41 * (ps_a s42 1153 (Int32.toNatClampNeg x1)).toInt from by omega) (show ((22468 : Int32) + ((41 : Int32) * x1)).toInt = 22468 + 41 * x1.toInt from by omega)
  have f50_k : (ps_a s 1152 (Int32.toNatClampNeg x1)).toInt ≠ (13 : Int) := xne h34_k
  refine And.intro (fun h51_k => ?_) (fun h51_k => ?_)
  · have f52_k : (ps_a s 1152 (Int32.toNatClampNeg x1)).toInt = (14 : Int) := xeq h51_k
    refine ms_258 J hS hC hA hM (show 0 ≤ x1.toInt from by omega) (show x1.toInt < 40 from by omega) (show (ps_i s 1131 51).toInt ≤ 100 from by omega) (show (ps_a s 1152 (Int32.toNatClampNeg x1)).toInt = 14 from by omega) (fun s53 J53 K53 p53_0 p53_1 p53_2 p53_3 p53_4 => ?_)
    have K54 := kpt K K53 rfl rfl
    have KC := K53
    have hS : Sg (ps_a s53 1135) (ps_a s53 1136) (ps_a s53 1138) (ps_a s53 1139) (ps_i s53 1131 21).toInt σ := by rw [show ps_a s53 1135 = ps_a s 1135 from (K53.2 1135 rfl).1, show ps_a s53 1136 = ps_a s 1136 from (K53.2 1136 rfl).1, show ps_a s53 1138 = ps_a s 1138 from (K53.2 1138 rfl).1, show ps_a s53 1139 = ps_a s 1139 from (K53.2 1139 rfl).1, show ps_i s53 1131 21 = ps_i s 1131 21 from kp_i K53 21 rfl]; exact hS
    have p53_2' : (ps_i s 1131 51).toInt ≤ (ps_i s53 1131 51).toInt := p53_2
    have r55_k := mf_51 J53
    have p53_3' : (ps_i s53 1131 51).toInt ≤ (ps_i s 1131 51).toInt + 36 := p53_3
    have hA : As σ (ps_a s53 1134) x1.toInt (ps_i s53 1131 51).toInt := p53_0
    have hO : OutB (ps_a s 1134) (ps_a s53 1134) x1.toInt := p53_1
    have hRs : Res σ (ps_a s53 1149) (ps_i s53 1131 34).toInt (ps_i s53 1131 50).toInt := p53_4
    exact k _ J53 K54 hA hO (show (ps_i s 1131 51).toInt ≤ (ps_i s53 1131 51).toInt from by omega) (show (ps_i s53 1131 51).toInt ≤ (ps_i s 1131 51).toInt + 36 from by omega) hRs
  have f56_k : (ps_a s 1152 (Int32.toNatClampNeg x1)).toInt ≠ (14 : Int) := xne h51_k
  refine And.intro (fun h57_k => ?_) (fun h57_k => ?_)
  · have f58_k : (ps_a s 1152 (Int32.toNatClampNeg x1)).toInt = (15 : Int) := xeq h57_k
    refine pg_225_0 ?_
    have r59_k := mf_34 J
    refine And.intro (fun h60_k => ?_) (fun h60_k => ?_)
    · have f61_k : (260 : Int) ≤ (ps_i s 1131 34).toInt := xle h60_k
      have a62_k : ((ps_i s 1131 34) + 1).toInt = (ps_i s 1131 34).toInt + (1 : Int) := xIa (show -2147483648 ≤ (ps_i s 1131 34).toInt + (1 : Int) from by omega) (show (ps_i s 1131 34).toInt + (1 : Int) < 2147483648 from by omega)
      have J63 := mwi_34 (v := ((ps_i s 1131 34) + 1)) J (show 0 ≤ ((ps_i s 1131 34) + 1).toInt from by omega) (show ((ps_i s 1131 34) + 1).toInt ≤ 100000 from by omega)
      have K64 := kpi K (q := 34) (v := ((ps_i s 1131 34) + 1)) rfl
      have hM1 : Md (ps_a (ps_ui s 1131 34 ((ps_i s 1131 34) + 1)) 1149) (ps_i (ps_ui s 1131 34 ((ps_i s 1131 34) + 1)) 1131 34).toInt ([] ++ [6]) := by first | exact Md_make hM rfl (by decide) | exact Md_make' hM (by decide) (by omega)
      obtain ⟨tl_k, ht1, ht2⟩ := SC_t (j := ((24108 : Int32) + ((41 : Int32) * x1))) hC rfl (by omega) (by omega)
      have hTa : Rw (ps_a (ps_ui s 1131 34 ((ps_i s 1131 34) + 1)) 1134) ((24108 : Int32) + ((41 : Int32) * x1)).toInt tl_k := ht1
      have htl_k := ht1.2.2.2.1
      refine ms_227 J63 (hTa) (hM1) ((by simp only [List.length_append, List.length_cons, List.length_nil]; omega)) (fun s65 J65 K65 p65_0 => ?_)
      have K66 := kpt K64 K65 rfl rfl
      have KC := K65
      have hS : Sg (ps_a s65 1135) (ps_a s65 1136) (ps_a s65 1138) (ps_a s65 1139) (ps_i s65 1131 21).toInt σ := by rw [show ps_a s65 1135 = ps_a (ps_ui s 1131 34 ((ps_i s 1131 34) + 1)) 1135 from (K65.2 1135 rfl).1, show ps_a s65 1136 = ps_a (ps_ui s 1131 34 ((ps_i s 1131 34) + 1)) 1136 from (K65.2 1136 rfl).1, show ps_a s65 1138 = ps_a (ps_ui s 1131 34 ((ps_i s 1131 34) + 1)) 1138 from (K65.2 1138 rfl).1, show ps_a s65 1139 = ps_a (ps_ui s 1131 34 ((ps_i s 1131 34) + 1)) 1139 from (K65.2 1139 rfl).1, show ps_i s65 1131 21 = ps_i (ps_ui s 1131 34 ((ps_i s 1131 34) + 1)) 1131 21 from kp_i K65 21 rfl]; exact hS
      have hC : SC σ (ps_a s65 1134) (ps_a s65 1157) (ps_a s65 1152) (ps_a s65 1153) (ps_a s65 1154) (ps_a s65 1155) (ps_i s65 1131 21).toInt x1.toInt := by rw [show ps_a s65 1134 = ps_a (ps_ui s 1131 34 ((ps_i s 1131 34) + 1)) 1134 from (K65.2 1134 rfl).1, show ps_a s65 1157 = ps_a (ps_ui s 1131 34 ((ps_i s 1131 34) + 1)) 1157 from (K65.2 1157 rfl).1, show ps_a s65 1152 = ps_a (ps_ui s 1131 34 ((ps_i s 1131 34) + 1)) 1152 from (K65.2 1152 rfl).1, show ps_a s65 1153 = ps_a (ps_ui s 1131 34 ((ps_i s 1131 34) + 1)) 1153 from (K65.2 1153 rfl).1, show ps_a s65 1154 = ps_a (ps_ui s 1131 34 ((ps_i s 1131 34) + 1)) 1154 from (K65.2 1154 rfl).1, show ps_a s65 1155 = ps_a (ps_ui s 1131 34 ((ps_i s 1131 34) + 1)) 1155 from (K65.2 1155 rfl).1, show ps_i s65 1131 21 = ps_i (ps_ui s 1131 34 ((ps_i s 1131 34) + 1)) 1131 21 from kp_i K65 21 rfl]; exact hC
      have hA : As σ (ps_a s65 1134) x1.toInt (ps_i s65 1131 51).toInt := by rw [show ps_a s65 1134 = ps_a (ps_ui s 1131 34 ((ps_i s 1131 34) + 1)) 1134 from (K65.2 1134 rfl).1, show ps_i s65 1131 51 = ps_i (ps_ui s 1131 34 ((ps_i s 1131 34) + 1)) 1131 51 from kp_i K65 51 rfl]; exact hA
      have hO : OutB (ps_a s 1134) (ps_a s65 1134) x1.toInt := by rw [show ps_a s65 1134 = ps_a (ps_ui s 1131 34 ((ps_i s 1131 34) + 1)) 1134 from (K65.2 1134 rfl).1]; exact hO
      have hTa : Rw (ps_a s65 1134) ((24108 : Int32) + ((41 : Int32) * x1)).toInt tl_k := by rw [show ps_a s65 1134 = ps_a (ps_ui s 1131 34 ((ps_i s 1131 34) + 1)) 1134 from (K65.2 1134 rfl).1]; exact hTa
      have hM2 : Md (ps_a s65 1149) (ps_i s65 1131 34).toInt (([] ++ [6]) ++ tl_k) := p65_0
      refine ms_227 J65 (hTa) (hM2) ((by simp only [List.length_append, List.length_cons, List.length_nil]; omega)) (fun s67 J67 K67 p67_0 => ?_)
      have K68 := kpt K66 K67 rfl rfl
      have KC := K67
      have hS : Sg (ps_a s67 1135) (ps_a s67 1136) (ps_a s67 1138) (ps_a s67 1139) (ps_i s67 1131 21).toInt σ := by rw [show ps_a s67 1135 = ps_a s65 1135 from (K67.2 1135 rfl).1, show ps_a s67 1136 = ps_a s65 1136 from (K67.2 1136 rfl).1, show ps_a s67 1138 = ps_a s65 1138 from (K67.2 1138 rfl).1, show ps_a s67 1139 = ps_a s65 1139 from (K67.2 1139 rfl).1, show ps_i s67 1131 21 = ps_i s65 1131 21 from kp_i K67 21 rfl]; exact hS
      have hC : SC σ (ps_a s67 1134) (ps_a s67 1157) (ps_a s67 1152) (ps_a s67 1153) (ps_a s67 1154) (ps_a s67 1155) (ps_i s67 1131 21).toInt x1.toInt := by rw [show ps_a s67 1134 = ps_a s65 1134 from (K67.2 1134 rfl).1, show ps_a s67 1157 = ps_a s65 1157 from (K67.2 1157 rfl).1, show ps_a s67 1152 = ps_a s65 1152 from (K67.2 1152 rfl).1, show ps_a s67 1153 = ps_a s65 1153 from (K67.2 1153 rfl).1, show ps_a s67 1154 = ps_a s65 1154 from (K67.2 1154 rfl).1, show ps_a s67 1155 = ps_a s65 1155 from (K67.2 1155 rfl).1, show ps_i s67 1131 21 = ps_i s65 1131 21 from kp_i K67 21 rfl]; exact hC
      have hA : As σ (ps_a s67 1134) x1.toInt (ps_i s67 1131 51).toInt := by rw [show ps_a s67 1134 = ps_a s65 1134 from (K67.2 1134 rfl).1, show ps_i s67 1131 51 = ps_i s65 1131 51 from kp_i K67 51 rfl]; exact hA
      have hO : OutB (ps_a s 1134) (ps_a s67 1134) x1.toInt := by rw [show ps_a s67 1134 = ps_a s65 1134 from (K67.2 1134 rfl).1]; exact hO
      have hTa : Rw (ps_a s67 1134) ((24108 : Int32) + ((41 : Int32) * x1)).toInt tl_k := by rw [show ps_a s67 1134 = ps_a s65 1134 from (K67.2 1134 rfl).1]; exact hTa
      have hM3 : Md (ps_a s67 1149) (ps_i s67 1131 34).toInt ((([] ++ [6]) ++ tl_k) ++ tl_k) := p67_0
      have r69_k := mf_51 J67
      have u70 : (ps_i s67 1131 51).toInt = (ps_i s65 1131 51).toInt := xeq (kp_i K67 51 rfl)
      have r71_k := mf_51 J65
      have u72 : (ps_i s65 1131 51).toInt = (ps_i s 1131 51).toInt := xeq (kp_i K65 51 rfl)
      exact k _ J67 K68 hA hO (show (ps_i s 1131 51).toInt ≤ (ps_i s67 1131 51).toInt from by omega) (show (ps_i s67 1131 51).toInt ≤ (ps_i s 1131 51).toInt + 36 from by omega) (⟨_, hM3, by simp only [List.length_append, List.length_cons, List.length_nil]; omega, Or.inl (show ws σ (6 :: (tl_k ++ tl_k)) [true] from ws_c (W' := []) kS_f6 (ws_app (W1 := [false]) (W2 := [false]) (wf_ws ht2) (wf_ws ht2)))⟩)
    · have f73_k : (ps_i s 1131 34).toInt < (260 : Int) := xlt h60_k
      refine ps_nd_i (show pm_in (ps_i s 1131 34) 260 = true from xgi (show 0 ≤ (ps_i s 1131 34).toInt from by omega) (show (ps_i s 1131 34).toInt < 260 from by omega)) ?_
      have J74 := mwa_n 1149 (i := (Int32.toNatClampNeg (ps_i s 1131 34))) (v := (6 : Int32)) J rfl (by decide)
      have K75 := kpa' K (r := 1149) (i := (Int32.toNatClampNeg (ps_i s 1131 34))) (v := (6 : Int32)) rfl
      have a76_k : ((ps_i s 1131 34) + 1).toInt = (ps_i s 1131 34).toInt + (1 : Int) := xIa (show -2147483648 ≤ (ps_i s 1131 34).toInt + (1 : Int) from by omega) (show (ps_i s 1131 34).toInt + (1 : Int) < 2147483648 from by omega)
      have J77 := mwi_34 (v := ((ps_i s 1131 34) + 1)) J74 (show 0 ≤ ((ps_i s 1131 34) + 1).toInt from by omega) (show ((ps_i s 1131 34) + 1).toInt ≤ 100000 from by omega)
      have K78 := kpi K75 (q := 34) (v := ((ps_i s 1131 34) + 1)) rfl
      have hM1 : Md (ps_a (ps_ui (ps_ua s 1149 (Int32.toNatClampNeg (ps_i s 1131 34)) 6) 1131 34 ((ps_i s 1131 34) + 1)) 1149) (ps_i (ps_ui (ps_ua s 1149 (Int32.toNatClampNeg (ps_i s 1131 34)) 6) 1131 34 ((ps_i s 1131 34) + 1)) 1131 34).toInt ([] ++ [6]) := by first | exact Md_make hM rfl (by decide) | exact Md_make' hM (by decide) (by omega)
      obtain ⟨tl_k, ht1, ht2⟩ := SC_t (j := ((24108 : Int32) + ((41 : Int32) * x1))) hC rfl (by omega) (by omega)
      have hTa : Rw (ps_a (ps_ui (ps_ua s 1149 (Int32.toNatClampNeg (ps_i s 1131 34)) 6) 1131 34 ((ps_i s 1131 34) + 1)) 1134) ((24108 : Int32) + ((41 : Int32) * x1)).toInt tl_k := ht1
      have htl_k := ht1.2.2.2.1
      refine ms_227 J77 (hTa) (hM1) ((by simp only [List.length_append, List.length_cons, List.length_nil]; omega)) (fun s79 J79 K79 p79_0 => ?_)
      have K80 := kpt K78 K79 rfl rfl
      have KC := K79
      have hS : Sg (ps_a s79 1135) (ps_a s79 1136) (ps_a s79 1138) (ps_a s79 1139) (ps_i s79 1131 21).toInt σ := by rw [show ps_a s79 1135 = ps_a (ps_ui (ps_ua s 1149 (Int32.toNatClampNeg (ps_i s 1131 34)) 6) 1131 34 ((ps_i s 1131 34) + 1)) 1135 from (K79.2 1135 rfl).1, show ps_a s79 1136 = ps_a (ps_ui (ps_ua s 1149 (Int32.toNatClampNeg (ps_i s 1131 34)) 6) 1131 34 ((ps_i s 1131 34) + 1)) 1136 from (K79.2 1136 rfl).1, show ps_a s79 1138 = ps_a (ps_ui (ps_ua s 1149 (Int32.toNatClampNeg (ps_i s 1131 34)) 6) 1131 34 ((ps_i s 1131 34) + 1)) 1138 from (K79.2 1138 rfl).1, show ps_a s79 1139 = ps_a (ps_ui (ps_ua s 1149 (Int32.toNatClampNeg (ps_i s 1131 34)) 6) 1131 34 ((ps_i s 1131 34) + 1)) 1139 from (K79.2 1139 rfl).1, show ps_i s79 1131 21 = ps_i (ps_ui (ps_ua s 1149 (Int32.toNatClampNeg (ps_i s 1131 34)) 6) 1131 34 ((ps_i s 1131 34) + 1)) 1131 21 from kp_i K79 21 rfl]; exact hS
      have hC : SC σ (ps_a s79 1134) (ps_a s79 1157) (ps_a s79 1152) (ps_a s79 1153) (ps_a s79 1154) (ps_a s79 1155) (ps_i s79 1131 21).toInt x1.toInt := by rw [show ps_a s79 1134 = ps_a (ps_ui (ps_ua s 1149 (Int32.toNatClampNeg (ps_i s 1131 34)) 6) 1131 34 ((ps_i s 1131 34) + 1)) 1134 from (K79.2 1134 rfl).1, show ps_a s79 1157 = ps_a (ps_ui (ps_ua s 1149 (Int32.toNatClampNeg (ps_i s 1131 34)) 6) 1131 34 ((ps_i s 1131 34) + 1)) 1157 from (K79.2 1157 rfl).1, show ps_a s79 1152 = ps_a (ps_ui (ps_ua s 1149 (Int32.toNatClampNeg (ps_i s 1131 34)) 6) 1131 34 ((ps_i s 1131 34) + 1)) 1152 from (K79.2 1152 rfl).1, show ps_a s79 1153 = ps_a (ps_ui (ps_ua s 1149 (Int32.toNatClampNeg (ps_i s 1131 34)) 6) 1131 34 ((ps_i s 1131 34) + 1)) 1153 from (K79.2 1153 rfl).1, show ps_a s79 1154 = ps_a (ps_ui (ps_ua s 1149 (Int32.toNatClampNeg (ps_i s 1131 34)) 6) 1131 34 ((ps_i s 1131 34) + 1)) 1154 from (K79.2 1154 rfl).1, show ps_a s79 1155 = ps_a (ps_ui (ps_ua s 1149 (Int32.toNatClampNeg (ps_i s 1131 34)) 6) 1131 34 ((ps_i s 1131 34) + 1)) 1155 from (K79.2 1155 rfl).1, show ps_i s79 1131 21 = ps_i (ps_ui (ps_ua s 1149 (Int32.toNatClampNeg (ps_i s 1131 34)) 6) 1131 34 ((ps_i s 1131 34) + 1)) 1131 21 from kp_i K79 21 rfl]; exact hC
      have hA : As σ (ps_a s79 1134) x1.toInt (ps_i s79 1131 51).toInt := by rw [show ps_a s79 1134 = ps_a (ps_ui (ps_ua s 1149 (Int32.toNatClampNeg (ps_i s 1131 34)) 6) 1131 34 ((ps_i s 1131 34) + 1)) 1134 from (K79.2 1134 rfl).1, show ps_i s79 1131 51 = ps_i (ps_ui (ps_ua s 1149 (Int32.toNatClampNeg (ps_i s 1131 34)) 6) 1131 34 ((ps_i s 1131 34) + 1)) 1131 51 from kp_i K79 51 rfl]; exact hA
      have hO : OutB (ps_a s 1134) (ps_a s79 1134) x1.toInt := by rw [show ps_a s79 1134 = ps_a (ps_ui (ps_ua s 1149 (Int32.toNatClampNeg (ps_i s 1131 34)) 6) 1131 34 ((ps_i s 1131 34) + 1)) 1134 from (K79.2 1134 rfl).1]; exact hO
      have hTa : Rw (ps_a s79 1134) ((24108 : Int32) + ((41 : Int32) * x1)).toInt tl_k := by rw [show ps_a s79 1134 = ps_a (ps_ui (ps_ua s 1149 (Int32.toNatClampNeg (ps_i s 1131 34)) 6) 1131 34 ((ps_i s 1131 34) + 1)) 1134 from (K79.2 1134 rfl).1]; exact hTa
      have hM2 : Md (ps_a s79 1149) (ps_i s79 1131 34).toInt (([] ++ [6]) ++ tl_k) := p79_0
      refine ms_227 J79 (hTa) (hM2) ((by simp only [List.length_append, List.length_cons, List.length_nil]; omega)) (fun s81 J81 K81 p81_0 => ?_)
      have K82 := kpt K80 K81 rfl rfl
      have KC := K81
      have hS : Sg (ps_a s81 1135) (ps_a s81 1136) (ps_a s81 1138) (ps_a s81 1139) (ps_i s81 1131 21).toInt σ := by rw [show ps_a s81 1135 = ps_a s79 1135 from (K81.2 1135 rfl).1, show ps_a s81 1136 = ps_a s79 1136 from (K81.2 1136 rfl).1, show ps_a s81 1138 = ps_a s79 1138 from (K81.2 1138 rfl).1, show ps_a s81 1139 = ps_a s79 1139 from (K81.2 1139 rfl).1, show ps_i s81 1131 21 = ps_i s79 1131 21 from kp_i K81 21 rfl]; exact hS
      have hC : SC σ (ps_a s81 1134) (ps_a s81 1157) (ps_a s81 1152) (ps_a s81 1153) (ps_a s81 1154) (ps_a s81 1155) (ps_i s81 1131 21).toInt x1.toInt := by rw [show ps_a s81 1134 = ps_a s79 1134 from (K81.2 1134 rfl).1, show ps_a s81 1157 = ps_a s79 1157 from (K81.2 1157 rfl).1, show ps_a s81 1152 = ps_a s79 1152 from (K81.2 1152 rfl).1, show ps_a s81 1153 = ps_a s79 1153 from (K81.2 1153 rfl).1, show ps_a s81 1154 = ps_a s79 1154 from (K81.2 1154 rfl).1, show ps_a s81 1155 = ps_a s79 1155 from (K81.2 1155 rfl).1, show ps_i s81 1131 21 = ps_i s79 1131 21 from kp_i K81 21 rfl]; exact hC
      have hA : As σ (ps_a s81 1134) x1.toInt (ps_i s81 1131 51).toInt := by rw [show ps_a s81 1134 = ps_a s79 1134 from (K81.2 1134 rfl).1, show ps_i s81 1131 51 = ps_i s79 1131 51 from kp_i K81 51 rfl]; exact hA
      have hO : OutB (ps_a s 1134) (ps_a s81 1134) x1.toInt := by rw [show ps_a s81 1134 = ps_a s79 1134 from (K81.2 1134 rfl).1]; exact hO
      have hTa : Rw (ps_a s81 1134) ((24108 : Int32) + ((41 : Int32) * x1)).toInt tl_k := by rw [show ps_a s81 1134 = ps_a s79 1134 from (K81.2 1134 rfl).1]; exact hTa
      have hM3 : Md (ps_a s81 1149) (ps_i s81 1131 34).toInt ((([] ++ [6]) ++ tl_k) ++ tl_k) := p81_0
      have r83_k := mf_51 J81
      have u84 : (ps_i s81 1131 51).toInt = (ps_i s79 1131 51).toInt := xeq (kp_i K81 51 rfl)
      have r85_k := mf_51 J79
      have u86 : (ps_i s79 1131 51).toInt = (ps_i s 1131 51).toInt := xeq (kp_i K79 51 rfl)
      exact k _ J81 K82 hA hO (show (ps_i s 1131 51).toInt ≤ (ps_i s81 1131 51).toInt from by omega) (show (ps_i s81 1131 51).toInt ≤ (ps_i s 1131 51).toInt + 36 from by omega) (⟨_, hM3, by simp only [List.length_append, List.length_cons, List.length_nil]; omega, Or.inl (show ws σ (6 :: (tl_k ++ tl_k)) [true] from ws_c (W' := []) kS_f6 (ws_app (W1 := [false]) (W2 := [false]) (wf_ws ht2) (wf_ws ht2)))⟩)
  have f87_k : (ps_a s 1152 (Int32.toNatClampNeg x1)).toInt ≠ (15 : Int) := xne h57_k
  obtain ⟨l, hl1, hl2⟩ := SC_1i hC rfl ⟨by omega, by omega, by omega, by omega⟩
  have hl1 : Rw (ps_a s 1134) (((0 : Int32) + ((41 : Int32) * (ps_a s 1153 (Int32.toNatClampNeg x1))))).toInt l := by rw [show (((0 : Int32) + ((41 : Int32) * (ps_a s 1153 (Int32.toNatClampNeg x1))))).toInt = 41 * (ps_a s 1153 (Int32.toNatClampNeg x1)).toInt from by omega]; exact hl1
  have hlen0 := hl1.2.2.2.1
  have w1 := hl1.1
  have w2 := hl1.2.1
  have w3 := hl1.2.2.1
  obtain ⟨c, l3, rfl⟩ := wf_ne hl2
  have hp_k := Rw_p (l1 := []) (i := 0) hl1 rfl rfl
  have q2_k := SC_l2 hC rfl (by omega)
  have hgb := ma_1154 (i := x1) J (by omega) (by omega)
  refine pg_247_0 ?_
  refine pg_220_0 ?_
  have a88_k : (((0 : Int32) + ((41 : Int32) * (ps_a s 1153 (Int32.toNatClampNeg x1)))) + 1).toInt = ((0 : Int32) + ((41 : Int32) * (ps_a s 1153 (Int32.toNatClampNeg x1)))).toInt + (1 : Int) := xIa (show -2147483648 ≤ ((0 : Int32) + ((41 : Int32) * (ps_a s 1153 (Int32.toNatClampNeg x1)))).toInt + (1 : Int) from by omega) (show ((0 : Int32) + ((41 : Int32) * (ps_a s 1153 (Int32.toNatClampNeg x1)))).toInt + (1 : Int) < 2147483648 from by omega)
  have a89_k : ((((0 : Int32) + ((41 : Int32) * (ps_a s 1153 (Int32.toNatClampNeg x1)))) + 1) + 0).toInt = (((0 : Int32) + ((41 : Int32) * (ps_a s 1153 (Int32.toNatClampNeg x1)))) + 1).toInt + (0 : Int) := xIa (show -2147483648 ≤ (((0 : Int32) + ((41 : Int32) * (ps_a s 1153 (Int32.toNatClampNeg x1)))) + 1).toInt + (0 : Int) from by omega) (show (((0 : Int32) + ((41 : Int32) * (ps_a s 1153 (Int32.toNatClampNeg x1)))) + 1).toInt + (0 : Int) < 2147483648 from by omega)
  refine ps_nd_i (show pm_in ((((0 : Int32) + ((41 : Int32) * (ps_a s 1153 (Int32.toNatClampNeg x1)))) + 1) + 0) 27400 = true from xgi (show 0 ≤ ((((0 : Int32) + ((41 : Int32) * (ps_a s 1153 (Int32.toNatClampNeg x1)))) + 1) + 0).toInt from by omega) (show ((((0 : Int32) + ((41 : Int32) * (ps_a s 1153 (Int32.toNatClampNeg x1)))) + 1) + 0).toInt < 27400 from by omega)) ?_
  have r90_k : ((((0 : Int32) + ((41 : Int32) * (ps_a s 1153 (Int32.toNatClampNeg x1)))) + 1) + 0).toInt % 41 = 0 → ((((0 : Int32) + ((41 : Int32) * (ps_a s 1153 (Int32.toNatClampNeg x1)))) + 1) + 0).toInt < 27306 → 0 ≤ (ps_a s 1134 (Int32.toNatClampNeg ((((0 : Int32) + ((41 : Int32) * (ps_a s 1153 (Int32.toNatClampNeg x1)))) + 1) + 0))).toInt ∧ (ps_a s 1134 (Int32.toNatClampNeg ((((0 : Int32) + ((41 : Int32) * (ps_a s 1153 (Int32.toNatClampNeg x1)))) + 1) + 0))).toInt ≤ 40 := fun z1_k z2_k => mp_row (i := ((((0 : Int32) + ((41 : Int32) * (ps_a s 1153 (Int32.toNatClampNeg x1)))) + 1) + 0)) J z1_k (show 0 ≤ ((((0 : Int32) + ((41 : Int32) * (ps_a s 1153 (Int32.toNatClampNeg x1)))) + 1) + 0).toInt from by omega) z2_k
  refine And.intro (fun h91_k => ?_) (fun h91_k => ?_)
  · have f92_k : (ps_a s 1134 (Int32.toNatClampNeg ((((0 : Int32) + ((41 : Int32) * (ps_a s 1153 (Int32.toNatClampNeg x1)))) + 1) + 0))).toInt = (6 : Int) := xeq h91_k
    refine pg_245_0 ?_
    refine ps_nd_i (show pm_in x1 40 = true from xgi (show 0 ≤ x1.toInt from by omega) (show x1.toInt < 40 from by omega)) ?_
    have r93_k : 0 ≤ (ps_a s 1154 (Int32.toNatClampNeg x1)).toInt ∧ (ps_a s 1154 (Int32.toNatClampNeg x1)).toInt ≤ 9999 := ma_1154 (i := x1) J (show 0 ≤ x1.toInt from by omega) (show x1.toInt < 40 from by omega)
    refine pg_242_0 ?_
    have a94_k : ((41 : Int32) * (ps_a s 1154 (Int32.toNatClampNeg x1))).toInt = (41 : Int) * (ps_a s 1154 (Int32.toNatClampNeg x1)).toInt := xIm (show -2147483648 ≤ (41 : Int) * (ps_a s 1154 (Int32.toNatClampNeg x1)).toInt from by omega) (show (41 : Int) * (ps_a s 1154 (Int32.toNatClampNeg x1)).toInt < 2147483648 from by omega)
    have a95_k : ((0 : Int32) + ((41 : Int32) * (ps_a s 1154 (Int32.toNatClampNeg x1)))).toInt = (0 : Int) + ((41 : Int32) * (ps_a s 1154 (Int32.toNatClampNeg x1))).toInt := xIa (show -2147483648 ≤ (0 : Int) + ((41 : Int32) * (ps_a s 1154 (Int32.toNatClampNeg x1))).toInt from by omega) (show (0 : Int) + ((41 : Int32) * (ps_a s 1154 (Int32.toNatClampNeg x1))).toInt < 2147483648 from by omega)
    refine ms_260 J hS (⟨_, hl1, hl2⟩) (show ((0 : Int32) + ((41 : Int32) * (ps_a s 1153 (Int32.toNatClampNeg x1)))).toInt % 41 = 0 from by omega) (show 0 ≤ ((0 : Int32) + ((41 : Int32) * (ps_a s 1153 (Int32.toNatClampNeg x1)))).toInt from by omega) (show ((0 : Int32) + ((41 : Int32) * (ps_a s 1153 (Int32.toNatClampNeg x1)))).toInt < 27306 from by omega) (show ((0 : Int32) + ((41 : Int32) * (ps_a s 1154 (Int32.toNatClampNeg x1)))).toInt % 41 = 0 from by omega) (show 0 ≤ ((0 : Int32) + ((41 : Int32) * (ps_a s 1154 (Int32.toNatClampNeg x1)))).toInt from by omega) (show ((0 : Int32) + ((41 : Int32) * (ps_a s 1154 (Int32.toNatClampNeg x1)))).toInt < 27306 from by omega) (show ((22468 : Int32) + ((41 : Int32) * x1)).toInt % 41 = 0 from by omega) (show 0 ≤ ((22468 : Int32) + ((41 : Int32) * x1)).toInt from by omega) (show ((22468 : Int32) + ((41 : Int32) * x1)).toInt < 27306 from by omega) ((show (ps_a s 1134 (Int32.toNatClampNeg (((0 : Int32) + ((41 : Int32) * (ps_a s 1153 (Int32.toNatClampNeg x1)))) + 1 + 0))).toInt = 6 from by omega)) (fun v96 b96 => ?_)
    refine And.intro (fun h97_k => ?_) (fun h97_k => ?_)
    · have f98_k : v96.toInt ≠ (0 : Int) := xne h97_k
      exact ms_257_275 (x1 := x1) (σ := σ) k  ((22468 : Int32) + ((41 : Int32) * x1)) _ J K hS hC hA hO hM (show 0 ≤ x1.toInt from by omega) (show x1.toInt < 40 from by omega) (show (ps_i s 1131 51).toInt ≤ 100 from by omega) (show (ps_i s 1131 51).toInt = (ps_i s 1131 51).toInt from by omega) (show (ps_a s 1152 (Int32.toNatClampNeg x1)).toInt = 16 from by omega) (show ((22468 : Int32) + ((41 : Int32) * x1)).toInt = 22468 + 41 * x1.toInt from by omega)
    · have f99_k : v96.toInt = (0 : Int) := xeq h97_k
      refine ms_241 J (show 1 ≤ (4 : Int) from by omega) (show (4 : Int) ≤ 5 from by omega) (fun s100 J100 K100 p100_0 => ?_)
      have K101 := kpt K K100 rfl rfl
      have KC := K100
      have hS : Sg (ps_a s100 1135) (ps_a s100 1136) (ps_a s100 1138) (ps_a s100 1139) (ps_i s100 1131 21).toInt σ := by rw [show ps_a s100 1135 = ps_a s 1135 from (K100.2 1135 rfl).1, show ps_a s100 1136 = ps_a s 1136 from (K100.2 1136 rfl).1, show ps_a s100 1138 = ps_a s 1138 from (K100.2 1138 rfl).1, show ps_a s100 1139 = ps_a s 1139 from (K100.2 1139 rfl).1, show ps_i s100 1131 21 = ps_i s 1131 21 from kp_i K100 21 rfl]; exact hS
      have hC : SC σ (ps_a s100 1134) (ps_a s100 1157) (ps_a s100 1152) (ps_a s100 1153) (ps_a s100 1154) (ps_a s100 1155) (ps_i s100 1131 21).toInt x1.toInt := by rw [show ps_a s100 1134 = ps_a s 1134 from (K100.2 1134 rfl).1, show ps_a s100 1157 = ps_a s 1157 from (K100.2 1157 rfl).1, show ps_a s100 1152 = ps_a s 1152 from (K100.2 1152 rfl).1, show ps_a s100 1153 = ps_a s 1153 from (K100.2 1153 rfl).1, show ps_a s100 1154 = ps_a s 1154 from (K100.2 1154 rfl).1, show ps_a s100 1155 = ps_a s 1155 from (K100.2 1155 rfl).1, show ps_i s100 1131 21 = ps_i s 1131 21 from kp_i K100 21 rfl]; exact hC
      have hA : As σ (ps_a s100 1134) x1.toInt (ps_i s100 1131 51).toInt := by rw [show ps_a s100 1134 = ps_a s 1134 from (K100.2 1134 rfl).1, show ps_i s100 1131 51 = ps_i s 1131 51 from kp_i K100 51 rfl]; exact hA
      have hM : Md (ps_a s100 1149) (ps_i s100 1131 34).toInt ([] : List Nat) := by rw [show ps_a s100 1149 = ps_a s 1149 from (K100.2 1149 rfl).1, show ps_i s100 1131 34 = ps_i s 1131 34 from kp_i K100 34 rfl]; exact hM
      have hO : OutB (ps_a s 1134) (ps_a s100 1134) x1.toInt := by rw [show ps_a s100 1134 = ps_a s 1134 from (K100.2 1134 rfl).1]; exact hO
      have p100_0' : 1 ≤ (ps_i s100 1131 50).toInt := p100_0
      have r102_k := mf_50 J100
      have r103_k := mf_51 J100
      have u104 : (ps_i s100 1131 51).toInt = (ps_i s 1131 51).toInt := xeq (kp_i K100 51 rfl)
      have r105_k : 0 ≤ (ps_a s100 1152 (Int32.toNatClampNeg x1)).toInt ∧ (ps_a s100 1152 (Int32.toNatClampNeg x1)).toInt ≤ 18 := ma_1152 (i := x1) J100 (show 0 ≤ x1.toInt from by omega) (show x1.toInt < 40 from by omega)
      have u106 : (ps_a s100 1152 (Int32.toNatClampNeg x1)).toInt = (ps_a s 1152 (Int32.toNatClampNeg x1)).toInt := xeq (kp_a K100 1152 rfl _)
      exact ms_257_275 (x1 := x1) (σ := σ) k  ((22468 : Int32) + ((41 : Int32) * x1)) _ J100 K101 hS hC hA hO hM (show 0 ≤ x1.toInt from by omega) (show x1.toInt < 40 from by omega) (show (ps_i s 1131 51).toInt ≤ 100 from by omega) (show (ps_i s100 1131 51).toInt = (ps_i s 1131 51).toInt from by omega) (show (ps_a s100 1152 (Int32.toNatClampNeg x1)).toInt = 16 from by omega) (show ((22468 : Int32) + ((41 : Int32) * x1)).toInt = 22468 + 41 * x1.toInt from by omega)
  · have f107_k : (ps_a s 1134 (Int32.toNatClampNeg ((((0 : Int32) + ((41 : Int32) * (ps_a s 1153 (Int32.toNatClampNeg x1)))) + 1) + 0))).toInt ≠ (6 : Int) := xne h91_k
    refine ms_241 J (show 1 ≤ (2 : Int) from by omega) (show (2 : Int) ≤ 5 from by omega) (fun s108 J108 K108 p108_0 => ?_)
    have K109 := kpt K K108 rfl rfl
    have KC := K108
    have hS : Sg (ps_a s108 1135) (ps_a s108 1136) (ps_a s108 1138) (ps_a s108 1139) (ps_i s108 1131 21).toInt σ := by rw [show ps_a s108 1135 = ps_a s 1135 from (K108.2 1135 rfl).1, show ps_a s108 1136 = ps_a s 1136 from (K108.2 1136 rfl).1, show ps_a s108 1138 = ps_a s 1138 from (K108.2 1138 rfl).1, show ps_a s108 1139 = ps_a s 1139 from (K108.2 1139 rfl).1, show ps_i s108 1131 21 = ps_i s 1131 21 from kp_i K108 21 rfl]; exact hS
    have hC : SC σ (ps_a s108 1134) (ps_a s108 1157) (ps_a s108 1152) (ps_a s108 1153) (ps_a s108 1154) (ps_a s108 1155) (ps_i s108 1131 21).toInt x1.toInt := by rw [show ps_a s108 1134 = ps_a s 1134 from (K108.2 1134 rfl).1, show ps_a s108 1157 = ps_a s 1157 from (K108.2 1157 rfl).1, show ps_a s108 1152 = ps_a s 1152 from (K108.2 1152 rfl).1, show ps_a s108 1153 = ps_a s 1153 from (K108.2 1153 rfl).1, show ps_a s108 1154 = ps_a s 1154 from (K108.2 1154 rfl).1, show ps_a s108 1155 = ps_a s 1155 from (K108.2 1155 rfl).1, show ps_i s108 1131 21 = ps_i s 1131 21 from kp_i K108 21 rfl]; exact hC
    have hA : As σ (ps_a s108 1134) x1.toInt (ps_i s108 1131 51).toInt := by rw [show ps_a s108 1134 = ps_a s 1134 from (K108.2 1134 rfl).1, show ps_i s108 1131 51 = ps_i s 1131 51 from kp_i K108 51 rfl]; exact hA
    have hM : Md (ps_a s108 1149) (ps_i s108 1131 34).toInt ([] : List Nat) := by rw [show ps_a s108 1149 = ps_a s 1149 from (K108.2 1149 rfl).1, show ps_i s108 1131 34 = ps_i s 1131 34 from kp_i K108 34 rfl]; exact hM
    have hO : OutB (ps_a s 1134) (ps_a s108 1134) x1.toInt := by rw [show ps_a s108 1134 = ps_a s 1134 from (K108.2 1134 rfl).1]; exact hO
    have p108_0' : 1 ≤ (ps_i s108 1131 50).toInt := p108_0
    have r110_k := mf_50 J108
    have r111_k := mf_51 J108
    have u112 : (ps_i s108 1131 51).toInt = (ps_i s 1131 51).toInt := xeq (kp_i K108 51 rfl)
    have r113_k : 0 ≤ (ps_a s108 1152 (Int32.toNatClampNeg x1)).toInt ∧ (ps_a s108 1152 (Int32.toNatClampNeg x1)).toInt ≤ 18 := ma_1152 (i := x1) J108 (show 0 ≤ x1.toInt from by omega) (show x1.toInt < 40 from by omega)
    have u114 : (ps_a s108 1152 (Int32.toNatClampNeg x1)).toInt = (ps_a s 1152 (Int32.toNatClampNeg x1)).toInt := xeq (kp_a K108 1152 rfl _)
    exact ms_257_275 (x1 := x1) (σ := σ) k  ((22468 : Int32) + ((41 : Int32) * x1)) _ J108 K109 hS hC hA hO hM (show 0 ≤ x1.toInt from by omega) (show x1.toInt < 40 from by omega) (show (ps_i s 1131 51).toInt ≤ 100 from by omega) (show (ps_i s108 1131 51).toInt = (ps_i s 1131 51).toInt from by omega) (show (ps_a s108 1152 (Int32.toNatClampNeg x1)).toInt = 16 from by omega) (show ((22468 : Int32) + ((41 : Int32) * x1)).toInt = 22468 + 41 * x1.toInt from by omega)
end
section
theorem PSt_le {σ : mSig} {g ga : Nat → Int32} {i i' : Int} (h : PSt σ g ga i) (hi : i' ≤ i) : PSt σ g ga i' := fun j hj => h j (by omega)
theorem PSt_up {σ : mSig} {g g' ga ga' : Nat → Int32} {i n : Int} {ml : List Nat} (h : PSt σ g ga i) (h0 : 0 ≤ i) (h40 : i < 40) (hA : As σ g i n) (hr : Rw g' (41 * i) ml) (hw : wf σ 5 ml [(true, 0)]) (ho : ∀ k : Nat, (k : Int) < 41 * i ∨ 41 * i + 41 ≤ (k : Int) → g' k = g k) (ha : ∀ j : Nat, (j : Int) ≠ i → ga' j = ga j) (hn : (ga' i.toNat).toInt = n) : PSt σ g' ga' (i + 1) := by
  have kp : ∀ {j m : Int}, 0 ≤ j → As σ g j m → As σ g' j m := fun {j m} hj hA k hk h12 => Fm_keep (hA k hk h12) (fun q h1 h2 => ho q (by omega))
  intro j hj
  by_cases e : (j : Int) = i
  · have e2 : j = i.toNat := by omega
    refine ⟨by rw [e]; exact ⟨ml, hr, hw⟩, ?_⟩
    rw [e2, hn, show ((i.toNat : Nat) : Int) = i from by omega]
    exact kp h0 hA
  · obtain ⟨h1, h2⟩ := h j (by omega)
    refine ⟨Fm_keep h1 (fun q h3 h4 => ho q (by omega)), ?_⟩
    rw [ha j e]
    exact kp (by omega) h2
/-- what prove knows of step i before its premises are looked at -/
def SB (σ : mSig) (g gk g1 : Nat → Int32) (bk th i : Int) : Prop := ((gk i.toNat).toInt ≠ 0 → (gk i.toNat).toInt ≠ 15 → 0 ≤ (g1 i.toNat).toInt) ∧ ((gk i.toNat).toInt = 0 ∨ (gk i.toNat).toInt = 6 ∨ (gk i.toNat).toInt = 7 ∨ (gk i.toNat).toInt = 10 ∨ (gk i.toNat).toInt = 13 ∨ 16 ≤ (gk i.toNat).toInt → Fm σ g (22468 + 41 * i)) ∧ ((gk i.toNat).toInt = 12 ∨ (gk i.toNat).toInt = 13 ∨ (gk i.toNat).toInt = 15 → Tm σ g (24108 + 41 * i)) ∧ ((gk i.toNat).toInt = 1 → Fm σ g (21812 + 41 * (8 * bk + (g1 i.toNat).toInt))) ∧ (∀ k : Nat, (k : Int) < th → Fm σ g (21320 + 41 * k))
theorem SB_SC {σ : mSig} {g ga gk g1 g2 g3 : Nat → Int32} {bk th i : Int} (h : SB σ g gk g1 bk th i) (hP : PSt σ g ga i) (a : 0 ≤ i ∧ i < 40 ∧ 0 ≤ bk ∧ 0 ≤ (g2 i.toNat).toInt ∧ 0 ≤ (g3 i.toNat).toInt) (p1 : (gk i.toNat).toInt ≠ 0 → (gk i.toNat).toInt ≠ 1 → (gk i.toNat).toInt ≠ 2 → (gk i.toNat).toInt ≠ 15 → (g1 i.toNat).toInt < i) (p2 : (gk i.toNat).toInt = 3 ∨ (gk i.toNat).toInt = 9 ∨ (gk i.toNat).toInt = 14 ∨ (gk i.toNat).toInt = 16 ∨ (gk i.toNat).toInt = 8 → (g2 i.toNat).toInt < i) (p3 : (gk i.toNat).toInt = 8 → (g3 i.toNat).toInt < i) (p4 : (gk i.toNat).toInt = 2 → (g1 i.toNat).toInt < th) : SC σ g ga gk g1 g2 g3 bk i := by
  obtain ⟨h0, h1, h2, h3, h4⟩ := h
  refine ⟨⟨a.1, a.2.1, a.2.2.1, h0, a.2.2.2⟩, hP, p1, p2, p3, h1, h2, h3, fun z => ?_⟩
  have := h4 (g1 i.toNat).toInt.toNat (by have := p4 z; omega)
  rw [show ((((g1 i.toNat).toInt.toNat : Nat)) : Int) = (g1 i.toNat).toInt from by omega] at this
  exact this
/-- isRow also where nothing was made -/
theorem mt_228 {x : Nat → Nat → Nat} {t : Int32} {s : ps_S} {d : Nat} {f : Int32 → ps_S → Prop} (J : mJ x t s) {σ : mSig} {ml : List Nat} (hS : Sg (ps_a s 1135) (ps_a s 1136) (ps_a s 1138) (ps_a s 1139) (ps_i s 1131 21).toInt σ) (hM : Md (ps_a s 1149) (ps_i s 1131 34).toInt ml) (h : ws σ ml [true] ∨ ml = []) (k : ∀ (v : Int32) (s' : ps_S), mJ x t s' → kp [1150, 1151] [] s s' → (v.toInt = 0 ∨ (ml.length ≤ 40 ∧ (wf σ 5 ml [(true, 0)] ∨ ml = []))) → v &&& 1 = v → f v s') : ps_Cl (d + 1) 228 [.ref 1131] s (ps_rI f) := by
  rcases h with h | h
  · exact ms_228 J hS hM h (fun v s' J' K' p b => k v s' J' K' (p.imp id (fun z => ⟨z.1, Or.inl z.2⟩)) b)
  · subst h
    have h34 : (ps_i s 1131 34).toInt = 0 := hM.1
    refine pg_228_0 (d := d) (And.intro (fun h1 => ?_) (fun h1 => ?_))
    · refine pg_228_17 (d := d) (And.intro (fun h2 => ?_) (fun h2 => ?_))
      · exact k 1 s J kp_refl (Or.inr ⟨by decide, Or.inr rfl⟩) (by decide)
      · have f2 : (0 : Int) < (ps_i s 1131 34).toInt := xlt h2
        omega
    · have f2 : (40 : Int) < (ps_i s 1131 34).toInt := xlt h1
      omega
end
section
set_option maxRecDepth 100000
-- ProofBenchModel.takesStep(I)V
theorem pg_252_0 {d : Nat} {x1 : Int32} {s : ps_S} {Q : Option Value → ps_S → Prop} (h :
  ps_nd (pm_in x1 40) (((ps_a (ps_ui (ps_ui (ps_ui s 1131 50 0) 1131 51 0) 1131 34 0) 1152 (Int32.toNatClampNeg x1)) ≠ 1 →
    ps_nd (pm_in x1 40) (ps_nd (pm_in x1 40) (((ps_a (ps_ua (ps_ui (ps_ui (ps_ui s 1131 50 0) 1131 51 0) 1131 34 0) 1158 (Int32.toNatClampNeg x1) 0) 1152 (Int32.toNatClampNeg x1)) ≠ 2 →
      ps_nd (pm_in x1 40) (ps_At (d + 1) 252 84 [(0, .ref 1131), (1, .int x1)] [] (ps_ua (ps_ua (ps_ui (ps_ui (ps_ui s 1131 50 0) 1131 51 0) 1131 34 0) 1158 (Int32.toNatClampNeg x1) 0) 1159 (Int32.toNatClampNeg x1) 0) Q)) ∧
    ((ps_a (ps_ua (ps_ui (ps_ui (ps_ui s 1131 50 0) 1131 51 0) 1131 34 0) 1158 (Int32.toNatClampNeg x1) 0) 1152 (Int32.toNatClampNeg x1)) = 2 →
      ps_nd (pm_in x1 40) (((ps_i (ps_ua (ps_ui (ps_ui (ps_ui s 1131 50 0) 1131 51 0) 1131 34 0) 1158 (Int32.toNatClampNeg x1) 0) 1131 54) ≤ (ps_a (ps_ua (ps_ui (ps_ui (ps_ui s 1131 50 0) 1131 51 0) 1131 34 0) 1158 (Int32.toNatClampNeg x1) 0) 1153 (Int32.toNatClampNeg x1)) →
        ps_nd (pm_in x1 40) (ps_At (d + 1) 252 84 [(0, .ref 1131), (1, .int x1)] [] (ps_ua (ps_ua (ps_ui (ps_ui (ps_ui s 1131 50 0) 1131 51 0) 1131 34 0) 1158 (Int32.toNatClampNeg x1) 0) 1159 (Int32.toNatClampNeg x1) 0) Q)) ∧
      ((ps_a (ps_ua (ps_ui (ps_ui (ps_ui s 1131 50 0) 1131 51 0) 1131 34 0) 1158 (Int32.toNatClampNeg x1) 0) 1153 (Int32.toNatClampNeg x1)) < (ps_i (ps_ua (ps_ui (ps_ui (ps_ui s 1131 50 0) 1131 51 0) 1131 34 0) 1158 (Int32.toNatClampNeg x1) 0) 1131 54) →
        ps_nd (pm_in x1 40) (ps_nd (pm_in x1 40) (ps_At (d + 1) 252 84 [(0, .ref 1131), (1, .int x1)] [] (ps_ua (ps_ua (ps_ui (ps_ui (ps_ui s 1131 50 0) 1131 51 0) 1131 34 0) 1158 (Int32.toNatClampNeg x1) 0) 1159 (Int32.toNatClampNeg x1) ((1 : Int32) <<< ((ps_a (ps_ua (ps_ui (ps_ui (ps_ui s 1131 50 0) 1131 51 0) 1131 34 0) 1158 (Int32.toNatClampNeg x1) 0) 1153 (Int32.toNatClampNeg x1)) &&& 31))) Q)))))))) ∧
  ((ps_a (ps_ui (ps_ui (ps_ui s 1131 50 0) 1131 51 0) 1131 34 0) 1152 (Int32.toNatClampNeg x1)) = 1 →
    ps_nd (pm_in x1 40) (ps_nd (pm_in x1 40) (ps_nd (pm_in x1 40) (((ps_a (ps_ua (ps_ui (ps_ui (ps_ui s 1131 50 0) 1131 51 0) 1131 34 0) 1158 (Int32.toNatClampNeg x1) ((1 : Int32) <<< ((ps_a (ps_ui (ps_ui (ps_ui s 1131 50 0) 1131 51 0) 1131 34 0) 1153 (Int32.toNatClampNeg x1)) &&& 31))) 1152 (Int32.toNatClampNeg x1)) ≠ 2 →
      ps_nd (pm_in x1 40) (ps_At (d + 1) 252 84 [(0, .ref 1131), (1, .int x1)] [] (ps_ua (ps_ua (ps_ui (ps_ui (ps_ui s 1131 50 0) 1131 51 0) 1131 34 0) 1158 (Int32.toNatClampNeg x1) ((1 : Int32) <<< ((ps_a (ps_ui (ps_ui (ps_ui s 1131 50 0) 1131 51 0) 1131 34 0) 1153 (Int32.toNatClampNeg x1)) &&& 31))) 1159 (Int32.toNatClampNeg x1) 0) Q)) ∧
    ((ps_a (ps_ua (ps_ui (ps_ui (ps_ui s 1131 50 0) 1131 51 0) 1131 34 0) 1158 (Int32.toNatClampNeg x1) ((1 : Int32) <<< ((ps_a (ps_ui (ps_ui (ps_ui s 1131 50 0) 1131 51 0) 1131 34 0) 1153 (Int32.toNatClampNeg x1)) &&& 31))) 1152 (Int32.toNatClampNeg x1)) = 2 →
      ps_nd (pm_in x1 40) (((ps_i (ps_ua (ps_ui (ps_ui (ps_ui s 1131 50 0) 1131 51 0) 1131 34 0) 1158 (Int32.toNatClampNeg x1) ((1 : Int32) <<< ((ps_a (ps_ui (ps_ui (ps_ui s 1131 50 0) 1131 51 0) 1131 34 0) 1153 (Int32.toNatClampNeg x1)) &&& 31))) 1131 54) ≤ (ps_a (ps_ua (ps_ui (ps_ui (ps_ui s 1131 50 0) 1131 51 0) 1131 34 0) 1158 (Int32.toNatClampNeg x1) ((1 : Int32) <<< ((ps_a (ps_ui (ps_ui (ps_ui s 1131 50 0) 1131 51 0) 1131 34 0) 1153 (Int32.toNatClampNeg x1)) &&& 31))) 1153 (Int32.toNatClampNeg x1)) →
        ps_nd (pm_in x1 40) (ps_At (d + 1) 252 84 [(0, .ref 1131), (1, .int x1)] [] (ps_ua (ps_ua (ps_ui (ps_ui (ps_ui s 1131 50 0) 1131 51 0) 1131 34 0) 1158 (Int32.toNatClampNeg x1) ((1 : Int32) <<< ((ps_a (ps_ui (ps_ui (ps_ui s 1131 50 0) 1131 51 0) 1131 34 0) 1153 (Int32.toNatClampNeg x1)) &&& 31))) 1159 (Int32.toNatClampNeg x1) 0) Q)) ∧
      ((ps_a (ps_ua (ps_ui (ps_ui (ps_ui s 1131 50 0) 1131 51 0) 1131 34 0) 1158 (Int32.toNatClampNeg x1) ((1 : Int32) <<< ((ps_a (ps_ui (ps_ui (ps_ui s 1131 50 0) 1131 51 0) 1131 34 0) 1153 (Int32.toNatClampNeg x1)) &&& 31))) 1153 (Int32.toNatClampNeg x1)) < (ps_i (ps_ua (ps_ui (ps_ui (ps_ui s 1131 50 0) 1131 51 0) 1131 34 0) 1158 (Int32.toNatClampNeg x1) ((1 : Int32) <<< ((ps_a (ps_ui (ps_ui (ps_ui s 1131 50 0) 1131 51 0) 1131 34 0) 1153 (Int32.toNatClampNeg x1)) &&& 31))) 1131 54) →
        ps_nd (pm_in x1 40) (ps_nd (pm_in x1 40) (ps_At (d + 1) 252 84 [(0, .ref 1131), (1, .int x1)] [] (ps_ua (ps_ua (ps_ui (ps_ui (ps_ui s 1131 50 0) 1131 51 0) 1131 34 0) 1158 (Int32.toNatClampNeg x1) ((1 : Int32) <<< ((ps_a (ps_ui (ps_ui (ps_ui s 1131 50 0) 1131 51 0) 1131 34 0) 1153 (Int32.toNatClampNeg x1)) &&& 31))) 1159 (Int32.toNatClampNeg x1) ((1 : Int32) <<< ((ps_a (ps_ua (ps_ui (ps_ui (ps_ui s 1131 50 0) 1131 51 0) 1131 34 0) 1158 (Int32.toNatClampNeg x1) ((1 : Int32) <<< ((ps_a (ps_ui (ps_ui (ps_ui s 1131 50 0) 1131 51 0) 1131 34 0) 1153 (Int32.toNatClampNeg x1)) &&& 31))) 1153 (Int32.toNatClampNeg x1)) &&& 31))) Q))))))))))) : ps_At (d + 1) 252 0 [(0, .ref 1131), (1, .int x1)] [] s Q :=
  ps_wp_at (stops := [(84, [0, 1]), (146, [0, 1, 2]), (162, [0, 1, 2]), (178, [0, 1]), (219, [0, 1]), (232, [0, 1]), (248, [0, 1]), (253, [0, 1])]) (n := 86) h rfl

theorem pg_252_84 {d : Nat} {x1 : Int32} {s : ps_S} {Q : Option Value → ps_S → Prop} (h :
  ps_nd (pm_in x1 40) (ps_Cl d 250 [.ref 1131, .int x1] (ps_ub s 1160 (Int32.toNatClampNeg x1) ((1 : Int64) <<< (Int32.toInt64 x1 &&& 63))) (ps_rI (fun v1 s1 =>
    (v1 ≠ 0 →
      ps_nd (pm_in x1 40) (((ps_a s1 1152 (Int32.toNatClampNeg x1)) ≠ 2 →
        ps_nd (pm_in x1 40) (ps_Cl d 234 [.int (ps_a s1 1152 (Int32.toNatClampNeg x1))] s1 (ps_rI (fun v2 s2 =>
          (v2 ≤ 0 →
            ps_At (d + 1) 252 146 [(0, .ref 1131), (1, .int x1), (2, .int v2)] [] s2 Q) ∧
          (0 < v2 →
            ps_nd (pm_in x1 40) (ps_Cl d 251 [.ref 1131, .int x1, .int (ps_a s2 1153 (Int32.toNatClampNeg x1))] s2 (ps_rV (fun s3 =>
              ps_At (d + 1) 252 146 [(0, .ref 1131), (1, .int x1), (2, .int v2)] [] s3 Q)))))))) ∧
      ((ps_a s1 1152 (Int32.toNatClampNeg x1)) = 2 →
        ((0 : Int32) ≤ 0 →
          ps_At (d + 1) 252 146 [(0, .ref 1131), (1, .int x1), (2, .int 0)] [] s1 Q) ∧
        ((0 : Int32) < (0 : Int32) →
          ps_nd (pm_in x1 40) (ps_Cl d 251 [.ref 1131, .int x1, .int (ps_a s1 1153 (Int32.toNatClampNeg x1))] s1 (ps_rV (fun s4 =>
            ps_At (d + 1) 252 146 [(0, .ref 1131), (1, .int x1), (2, .int 0)] [] s4 Q))))))) ∧
    (v1 = 0 →
      ps_Cl d 241 [.ref 1131, .int 1] s1 (ps_rV (fun s5 =>
        Q none s5))))))) : ps_At (d + 1) 252 84 [(0, .ref 1131), (1, .int x1)] [] s Q :=
  ps_wp_at (stops := [(84, [0, 1]), (146, [0, 1, 2]), (162, [0, 1, 2]), (178, [0, 1]), (219, [0, 1]), (232, [0, 1]), (248, [0, 1]), (253, [0, 1])]) (n := 50) h rfl

theorem pg_252_146 {d : Nat} {x1 : Int32} {x2 : Int32} {s : ps_S} {Q : Option Value → ps_S → Prop} (h :
  (x2 ≤ 1 →
    ps_At (d + 1) 252 162 [(0, .ref 1131), (1, .int x1), (2, .int x2)] [] s Q) ∧
  (1 < x2 →
    ps_nd (pm_in x1 40) (ps_Cl d 251 [.ref 1131, .int x1, .int (ps_a s 1154 (Int32.toNatClampNeg x1))] s (ps_rV (fun s1 =>
      ps_At (d + 1) 252 162 [(0, .ref 1131), (1, .int x1), (2, .int x2)] [] s1 Q))))) : ps_At (d + 1) 252 146 [(0, .ref 1131), (1, .int x1), (2, .int x2)] [] s Q :=
  ps_wp_at (stops := [(84, [0, 1]), (146, [0, 1, 2]), (162, [0, 1, 2]), (178, [0, 1]), (219, [0, 1]), (232, [0, 1]), (248, [0, 1]), (253, [0, 1])]) (n := 12) h rfl

theorem pg_252_162 {d : Nat} {x1 : Int32} {x2 : Int32} {s : ps_S} {Q : Option Value → ps_S → Prop} (h :
  (x2 ≤ 2 →
    ps_At (d + 1) 252 178 [(0, .ref 1131), (1, .int x1)] [] s Q) ∧
  (2 < x2 →
    ps_nd (pm_in x1 40) (ps_Cl d 251 [.ref 1131, .int x1, .int (ps_a s 1155 (Int32.toNatClampNeg x1))] s (ps_rV (fun s1 =>
      ps_At (d + 1) 252 178 [(0, .ref 1131), (1, .int x1)] [] s1 Q))))) : ps_At (d + 1) 252 162 [(0, .ref 1131), (1, .int x1), (2, .int x2)] [] s Q :=
  ps_wp_at (stops := [(84, [0, 1]), (146, [0, 1, 2]), (162, [0, 1, 2]), (178, [0, 1]), (219, [0, 1]), (232, [0, 1]), (248, [0, 1]), (253, [0, 1])]) (n := 12) h rfl

theorem pg_252_178 {d : Nat} {x1 : Int32} {s : ps_S} {Q : Option Value → ps_S → Prop} (h :
  ps_nd (pm_in x1 40) ((8 ≤ (ps_a s 1152 (Int32.toNatClampNeg x1)) →
    ps_nd (pm_in x1 40) (((ps_a s 1152 (Int32.toNatClampNeg x1)) < 11 →
      ps_At (d + 1) 252 219 [(0, .ref 1131), (1, .int x1)] [] s Q) ∧
    (11 ≤ (ps_a s 1152 (Int32.toNatClampNeg x1)) →
      ps_nd (pm_in x1 40) (((ps_a s 1152 (Int32.toNatClampNeg x1)) ≤ 16 →
        ps_Cl d 257 [.ref 1131, .int x1] s (ps_rV (fun s1 =>
          ps_At (d + 1) 252 232 [(0, .ref 1131), (1, .int x1)] [] s1 Q))) ∧
      (16 < (ps_a s 1152 (Int32.toNatClampNeg x1)) →
        ps_At (d + 1) 252 219 [(0, .ref 1131), (1, .int x1)] [] s Q))))) ∧
  ((ps_a s 1152 (Int32.toNatClampNeg x1)) < 8 →
    ps_Cl d 253 [.ref 1131, .int x1] s (ps_rV (fun s2 =>
      ps_At (d + 1) 252 232 [(0, .ref 1131), (1, .int x1)] [] s2 Q))))) : ps_At (d + 1) 252 178 [(0, .ref 1131), (1, .int x1)] [] s Q :=
  ps_wp_at (stops := [(84, [0, 1]), (146, [0, 1, 2]), (162, [0, 1, 2]), (178, [0, 1]), (219, [0, 1]), (232, [0, 1]), (248, [0, 1]), (253, [0, 1])]) (n := 27) h rfl

theorem pg_252_219 {d : Nat} {x1 : Int32} {s : ps_S} {Q : Option Value → ps_S → Prop} (h :
  ps_Cl d 255 [.ref 1131, .int x1] s (ps_rV (fun s1 =>
    ps_At (d + 1) 252 232 [(0, .ref 1131), (1, .int x1)] [] s1 Q))) : ps_At (d + 1) 252 219 [(0, .ref 1131), (1, .int x1)] [] s Q :=
  ps_wp_at (stops := [(84, [0, 1]), (146, [0, 1, 2]), (162, [0, 1, 2]), (178, [0, 1]), (219, [0, 1]), (232, [0, 1]), (248, [0, 1]), (253, [0, 1])]) (n := 6) h rfl

theorem pg_252_232 {d : Nat} {x1 : Int32} {s : ps_S} {Q : Option Value → ps_S → Prop} (h :
  (12 < (ps_i s 1131 51) →
    ps_At (d + 1) 252 248 [(0, .ref 1131), (1, .int x1)] [] s Q) ∧
  ((ps_i s 1131 51) ≤ 12 →
    ps_Cl d 228 [.ref 1131] s (ps_rI (fun v1 s1 =>
      (v1 ≠ 0 →
        ps_At (d + 1) 252 253 [(0, .ref 1131), (1, .int x1)] [] s1 Q) ∧
      (v1 = 0 →
        ps_At (d + 1) 252 248 [(0, .ref 1131), (1, .int x1)] [] s1 Q))))) : ps_At (d + 1) 252 232 [(0, .ref 1131), (1, .int x1)] [] s Q :=
  ps_wp_at (stops := [(84, [0, 1]), (146, [0, 1, 2]), (162, [0, 1, 2]), (178, [0, 1]), (219, [0, 1]), (232, [0, 1]), (248, [0, 1]), (253, [0, 1])]) (n := 9) h rfl

theorem pg_252_248 {d : Nat} {x1 : Int32} {s : ps_S} {Q : Option Value → ps_S → Prop} (h :
  ps_Cl d 241 [.ref 1131, .int 5] s (ps_rV (fun s1 =>
    ps_At (d + 1) 252 253 [(0, .ref 1131), (1, .int x1)] [] s1 Q))) : ps_At (d + 1) 252 248 [(0, .ref 1131), (1, .int x1)] [] s Q :=
  ps_wp_at (stops := [(84, [0, 1]), (146, [0, 1, 2]), (162, [0, 1, 2]), (178, [0, 1]), (219, [0, 1]), (232, [0, 1]), (248, [0, 1]), (253, [0, 1])]) (n := 5) h rfl

theorem pg_252_253 {d : Nat} {x1 : Int32} {s : ps_S} {Q : Option Value → ps_S → Prop} (h :
  ((ps_i s 1131 50) ≤ 0 →
    ps_Cl d 242 [.int x1] s (ps_rI (fun v1 s1 =>
      ps_Cl d 229 [.ref 1131, .int v1] s1 (ps_rV (fun s2 =>
        ps_nd (pm_in x1 41) (Q none (ps_ua s2 1157 (Int32.toNatClampNeg x1) (ps_i s2 1131 51)))))))) ∧
  (0 < (ps_i s 1131 50) →
    Q none s)) : ps_At (d + 1) 252 253 [(0, .ref 1131), (1, .int x1)] [] s Q :=
  ps_wp_at (stops := [(84, [0, 1]), (146, [0, 1, 2]), (162, [0, 1, 2]), (178, [0, 1]), (219, [0, 1]), (232, [0, 1]), (248, [0, 1]), (253, [0, 1])]) (n := 17) h rfl

theorem ms_252_253 {x : Nat → Nat → Nat} {t : Int32} {d : Nat} {s0 : ps_S} {σ : mSig} {x1 : Int32} {Q : Option Value → ps_S → Prop} (k : ∀ (s' : ps_S), mJ x t s' → kp [1134, 1149, 1150, 1151, 1157, 1158, 1159, 1160] [34, 50, 51] s0 s' → (PSt σ (ps_a s' 1134) (ps_a s' 1157) x1.toInt) → ((ps_i s' 1131 50).toInt ≤ 0 → PSt σ (ps_a s' 1134) (ps_a s' 1157) (x1.toInt + 1)) → (∀ k : Nat, 21320 ≤ k → ps_a s' 1134 k = ps_a s0 1134 k) → Q none s') (s : ps_S) (J : mJ x t s) (K : kp [1134, 1149, 1150, 1151, 1157, 1158, 1159, 1160] [34, 50, 51] s0 s) (hA : As σ (ps_a s 1134) x1.toInt (ps_i s 1131 51).toInt) (hO : OutB (ps_a s0 1134) (ps_a s 1134) x1.toInt) (hP : PSt σ (ps_a s 1134) (ps_a s 1157) x1.toInt) (i3_k : 0 ≤ x1.toInt) (i4_k : x1.toInt < 40) (i5_k : (ps_i s 1131 51).toInt ≤ 36) (i6_k : 1 ≤ (ps_i s 1131 50).toInt ∨ ((ps_i s 1131 51).toInt ≤ 12 ∧ ∃ ml, Md (ps_a s 1149) (ps_i s 1131 34).toInt ml ∧ ml.length ≤ 40 ∧ wf σ 5 ml [(true, 0)])) : ps_At (d + 6) 252 253 [(0, .ref 1131), (1, .int x1)] [] s Q := by
  have r1_k := mf_51 J
  refine pg_252_253 (d := d + 5) ?_
  have r2_k := mf_50 J
  refine And.intro (fun h3_k => ?_) (fun h3_k => ?_)
  · have f4_k : (ps_i s 1131 50).toInt ≤ (0 : Int) := xle h3_k
    obtain ⟨h12_k, ml, hm1, hm2, hm3⟩ := i6_k.resolve_left (by omega)
    have ex_k : Int32.toNatClampNeg x1 = x1.toInt.toNat := rfl
    refine pg_242_0 ?_
    have a5_k : ((41 : Int32) * x1).toInt = (41 : Int) * x1.toInt := xIm (show -2147483648 ≤ (41 : Int) * x1.toInt from by omega) (show (41 : Int) * x1.toInt < 2147483648 from by omega)
    have a6_k : ((0 : Int32) + ((41 : Int32) * x1)).toInt = (0 : Int) + ((41 : Int32) * x1).toInt := xIa (show -2147483648 ≤ (0 : Int) + ((41 : Int32) * x1).toInt from by omega) (show (0 : Int) + ((41 : Int32) * x1).toInt < 2147483648 from by omega)
    refine ms_229 J (hm1) (show ((0 : Int32) + ((41 : Int32) * x1)).toInt % 41 = 0 from by omega) (show 0 ≤ ((0 : Int32) + ((41 : Int32) * x1)).toInt from by omega) (show ((0 : Int32) + ((41 : Int32) * x1)).toInt < 27306 from by omega) (hm2) (fun s7 J7 K7 p7_0 p7_1 => ?_)
    have K8 := kpt K K7 rfl rfl
    have KC := K7
    have hr : _ := p7_0
    have hu : _ := p7_1
    have r9_k := mf_51 J7
    have u10 : (ps_i s7 1131 51).toInt = (ps_i s 1131 51).toInt := xeq (kp_i K7 51 rfl)
    refine ps_nd_i (show pm_in x1 41 = true from xgi (show 0 ≤ x1.toInt from by omega) (show x1.toInt < 41 from by omega)) ?_
    have J11 := mwa_1157 (i := (Int32.toNatClampNeg x1)) (v := (ps_i s7 1131 51)) J7 (show 0 ≤ (ps_i s7 1131 51).toInt from by omega) (show (ps_i s7 1131 51).toInt ≤ 12 from by omega)
    have K12 := kpa' K8 (r := 1157) (i := (Int32.toNatClampNeg x1)) (v := (ps_i s7 1131 51)) rfl
    have PU : PSt σ (ps_a (ps_ua s7 1157 (Int32.toNatClampNeg x1) (ps_i s7 1131 51)) 1134) (ps_a (ps_ua s7 1157 (Int32.toNatClampNeg x1) (ps_i s7 1131 51)) 1157) (x1.toInt + 1) := PSt_up hP (by omega) (by omega) hA (by have z_k := hr; rw [show ((0 : Int32) + ((41 : Int32) * x1)).toInt = 41 * x1.toInt from by omega] at z_k; exact z_k) hm3 (fun k hk_k => hu k (by omega)) (fun j hj => (ua_ne (by omega)).trans (congrFun (KC.2 1157 rfl).1 j)) (by rw [show ps_a (ps_ua s7 1157 (Int32.toNatClampNeg x1) (ps_i s7 1131 51)) 1157 x1.toInt.toNat = _ from ua_eq]; exact xeq (kp_i KC 51 rfl))
    exact k _ J11 K12 ((PSt_le PU (by omega))) (fun _ => PU) (fun k hk_k => (hu k (by omega)).trans (hO k (by omega)))
  · have f13_k : (0 : Int) < (ps_i s 1131 50).toInt := xlt h3_k
    exact k _ J K hP (fun z_k => absurd z_k (show ¬ ((ps_i s 1131 50).toInt ≤ 0) from by omega)) (fun k hk_k => hO k (by omega))

theorem ms_252_248 {x : Nat → Nat → Nat} {t : Int32} {d : Nat} {s0 : ps_S} {σ : mSig} {x1 : Int32} {Q : Option Value → ps_S → Prop} (k : ∀ (s' : ps_S), mJ x t s' → kp [1134, 1149, 1150, 1151, 1157, 1158, 1159, 1160] [34, 50, 51] s0 s' → (PSt σ (ps_a s' 1134) (ps_a s' 1157) x1.toInt) → ((ps_i s' 1131 50).toInt ≤ 0 → PSt σ (ps_a s' 1134) (ps_a s' 1157) (x1.toInt + 1)) → (∀ k : Nat, 21320 ≤ k → ps_a s' 1134 k = ps_a s0 1134 k) → Q none s') (s : ps_S) (J : mJ x t s) (K : kp [1134, 1149, 1150, 1151, 1157, 1158, 1159, 1160] [34, 50, 51] s0 s) (hA : As σ (ps_a s 1134) x1.toInt (ps_i s 1131 51).toInt) (hO : OutB (ps_a s0 1134) (ps_a s 1134) x1.toInt) (hP : PSt σ (ps_a s 1134) (ps_a s 1157) x1.toInt) (i3_k : 0 ≤ x1.toInt) (i4_k : x1.toInt < 40) (i5_k : (ps_i s 1131 51).toInt ≤ 36) : ps_At (d + 6) 252 248 [(0, .ref 1131), (1, .int x1)] [] s Q := by
  have r1_k := mf_51 J
  refine pg_252_248 (d := d + 5) ?_
  refine ms_241 J (show 1 ≤ (5 : Int) from by omega) (show (5 : Int) ≤ 5 from by omega) (fun s2 J2 K2 p2_0 => ?_)
  have K3 := kpt K K2 rfl rfl
  have KC := K2
  have hA : As σ (ps_a s2 1134) x1.toInt (ps_i s2 1131 51).toInt := by rw [show ps_a s2 1134 = ps_a s 1134 from (K2.2 1134 rfl).1, show ps_i s2 1131 51 = ps_i s 1131 51 from kp_i K2 51 rfl]; exact hA
  have hO : OutB (ps_a s0 1134) (ps_a s2 1134) x1.toInt := by rw [show ps_a s2 1134 = ps_a s 1134 from (K2.2 1134 rfl).1]; exact hO
  have hP : PSt σ (ps_a s2 1134) (ps_a s2 1157) x1.toInt := by rw [show ps_a s2 1134 = ps_a s 1134 from (K2.2 1134 rfl).1, show ps_a s2 1157 = ps_a s 1157 from (K2.2 1157 rfl).1]; exact hP
  have p2_0' : 1 ≤ (ps_i s2 1131 50).toInt := p2_0
  have r4_k := mf_50 J2
  have r5_k := mf_51 J2
  have u6 : (ps_i s2 1131 51).toInt = (ps_i s 1131 51).toInt := xeq (kp_i K2 51 rfl)
  exact ms_252_253 (x1 := x1) (σ := σ) k   _ J2 K3 hA hO hP (show 0 ≤ x1.toInt from by omega) (show x1.toInt < 40 from by omega) (show (ps_i s2 1131 51).toInt ≤ 36 from by omega) (Or.inl (show 1 ≤ (ps_i s2 1131 50).toInt from by omega))

theorem ms_252_232 {x : Nat → Nat → Nat} {t : Int32} {d : Nat} {s0 : ps_S} {σ : mSig} {x1 : Int32} {Q : Option Value → ps_S → Prop} (k : ∀ (s' : ps_S), mJ x t s' → kp [1134, 1149, 1150, 1151, 1157, 1158, 1159, 1160] [34, 50, 51] s0 s' → (PSt σ (ps_a s' 1134) (ps_a s' 1157) x1.toInt) → ((ps_i s' 1131 50).toInt ≤ 0 → PSt σ (ps_a s' 1134) (ps_a s' 1157) (x1.toInt + 1)) → (∀ k : Nat, 21320 ≤ k → ps_a s' 1134 k = ps_a s0 1134 k) → Q none s') (s : ps_S) (J : mJ x t s) (K : kp [1134, 1149, 1150, 1151, 1157, 1158, 1159, 1160] [34, 50, 51] s0 s) (hS : Sg (ps_a s 1135) (ps_a s 1136) (ps_a s 1138) (ps_a s 1139) (ps_i s 1131 21).toInt σ) (hA : As σ (ps_a s 1134) x1.toInt (ps_i s 1131 51).toInt) (hO : OutB (ps_a s0 1134) (ps_a s 1134) x1.toInt) (hP : PSt σ (ps_a s 1134) (ps_a s 1157) x1.toInt) (hRs : Res σ (ps_a s 1149) (ps_i s 1131 34).toInt (ps_i s 1131 50).toInt) (i5_k : 0 ≤ x1.toInt) (i6_k : x1.toInt < 40) (i7_k : (ps_i s 1131 51).toInt ≤ 36) : ps_At (d + 6) 252 232 [(0, .ref 1131), (1, .int x1)] [] s Q := by
  have r1_k := mf_51 J
  refine pg_252_232 (d := d + 5) ?_
  obtain ⟨ml, hm1, hm2, hm3⟩ := id hRs
  have hMl : Md (ps_a s 1149) (ps_i s 1131 34).toInt (ml) := hm1
  refine And.intro (fun h2_k => ?_) (fun h2_k => ?_)
  · have f3_k : (12 : Int) < (ps_i s 1131 51).toInt := xlt h2_k
    exact ms_252_248 (x1 := x1) (σ := σ) k   _ J K hA hO hP (show 0 ≤ x1.toInt from by omega) (show x1.toInt < 40 from by omega) (show (ps_i s 1131 51).toInt ≤ 36 from by omega)
  · have f4_k : (ps_i s 1131 51).toInt ≤ (12 : Int) := xle h2_k
    refine mt_228 J hS (hm1) ((hm3.imp id (fun z_k => z_k.1))) (fun v5 s5 J5 K5 p5_0 b5 => ?_)
    have K6 := kpt K K5 rfl rfl
    have KC := K5
    have hS : Sg (ps_a s5 1135) (ps_a s5 1136) (ps_a s5 1138) (ps_a s5 1139) (ps_i s5 1131 21).toInt σ := by rw [show ps_a s5 1135 = ps_a s 1135 from (K5.2 1135 rfl).1, show ps_a s5 1136 = ps_a s 1136 from (K5.2 1136 rfl).1, show ps_a s5 1138 = ps_a s 1138 from (K5.2 1138 rfl).1, show ps_a s5 1139 = ps_a s 1139 from (K5.2 1139 rfl).1, show ps_i s5 1131 21 = ps_i s 1131 21 from kp_i K5 21 rfl]; exact hS
    have hA : As σ (ps_a s5 1134) x1.toInt (ps_i s5 1131 51).toInt := by rw [show ps_a s5 1134 = ps_a s 1134 from (K5.2 1134 rfl).1, show ps_i s5 1131 51 = ps_i s 1131 51 from kp_i K5 51 rfl]; exact hA
    have hO : OutB (ps_a s0 1134) (ps_a s5 1134) x1.toInt := by rw [show ps_a s5 1134 = ps_a s 1134 from (K5.2 1134 rfl).1]; exact hO
    have hP : PSt σ (ps_a s5 1134) (ps_a s5 1157) x1.toInt := by rw [show ps_a s5 1134 = ps_a s 1134 from (K5.2 1134 rfl).1, show ps_a s5 1157 = ps_a s 1157 from (K5.2 1157 rfl).1]; exact hP
    have hRs : Res σ (ps_a s5 1149) (ps_i s5 1131 34).toInt (ps_i s5 1131 50).toInt := by rw [show ps_a s5 1149 = ps_a s 1149 from (K5.2 1149 rfl).1, show ps_i s5 1131 34 = ps_i s 1131 34 from kp_i K5 34 rfl, show ps_i s5 1131 50 = ps_i s 1131 50 from kp_i K5 50 rfl]; exact hRs
    have hMl : Md (ps_a s5 1149) (ps_i s5 1131 34).toInt (ml) := by rw [show ps_a s5 1149 = ps_a s 1149 from (K5.2 1149 rfl).1, show ps_i s5 1131 34 = ps_i s 1131 34 from kp_i K5 34 rfl]; exact hMl
    have hv_k : _ := p5_0
    refine And.intro (fun h7_k => ?_) (fun h7_k => ?_)
    · have f8_k : v5.toInt ≠ (0 : Int) := xne h7_k
      have r9_k := mf_51 J5
      have u10 : (ps_i s5 1131 51).toInt = (ps_i s 1131 51).toInt := xeq (kp_i K5 51 rfl)
      exact ms_252_253 (x1 := x1) (σ := σ) k   _ J5 K6 hA hO hP (show 0 ≤ x1.toInt from by omega) (show x1.toInt < 40 from by omega) (show (ps_i s5 1131 51).toInt ≤ 36 from by omega) ((by rcases hv_k with z_k | ⟨z1_k, z2_k⟩; exact absurd z_k (by omega); rcases z2_k with z2_k | z2_k; exact Or.inr ⟨by omega, ml, hMl, z1_k, z2_k⟩; rcases hm3 with z3_k | z3_k; rw [z2_k] at z3_k; cases z3_k; exact Or.inl (by rw [show ps_i s5 1131 50 = ps_i s 1131 50 from kp_i KC 50 rfl]; exact z3_k.2)))
    · have f11_k : v5.toInt = (0 : Int) := xeq h7_k
      have r12_k := mf_51 J5
      have u13 : (ps_i s5 1131 51).toInt = (ps_i s 1131 51).toInt := xeq (kp_i K5 51 rfl)
      exact ms_252_248 (x1 := x1) (σ := σ) k   _ J5 K6 hA hO hP (show 0 ≤ x1.toInt from by omega) (show x1.toInt < 40 from by omega) (show (ps_i s5 1131 51).toInt ≤ 36 from by omega)

theorem ms_252_219 {x : Nat → Nat → Nat} {t : Int32} {d : Nat} {s0 : ps_S} {σ : mSig} {x1 : Int32} {Q : Option Value → ps_S → Prop} (k : ∀ (s' : ps_S), mJ x t s' → kp [1134, 1149, 1150, 1151, 1157, 1158, 1159, 1160] [34, 50, 51] s0 s' → (PSt σ (ps_a s' 1134) (ps_a s' 1157) x1.toInt) → ((ps_i s' 1131 50).toInt ≤ 0 → PSt σ (ps_a s' 1134) (ps_a s' 1157) (x1.toInt + 1)) → (∀ k : Nat, 21320 ≤ k → ps_a s' 1134 k = ps_a s0 1134 k) → Q none s') (s : ps_S) (J : mJ x t s) (K : kp [1134, 1149, 1150, 1151, 1157, 1158, 1159, 1160] [34, 50, 51] s0 s) (hS : Sg (ps_a s 1135) (ps_a s 1136) (ps_a s 1138) (ps_a s 1139) (ps_i s 1131 21).toInt σ) (hC : SC σ (ps_a s 1134) (ps_a s 1157) (ps_a s 1152) (ps_a s 1153) (ps_a s 1154) (ps_a s 1155) (ps_i s 1131 21).toInt x1.toInt) (hA : As σ (ps_a s 1134) x1.toInt (ps_i s 1131 51).toInt) (hO : OutB (ps_a s0 1134) (ps_a s 1134) x1.toInt) (hM : Md (ps_a s 1149) (ps_i s 1131 34).toInt ([] : List Nat)) (i5_k : 0 ≤ x1.toInt) (i6_k : x1.toInt < 40) (i7_k : (ps_i s 1131 51).toInt = 0) (i8_k : (ps_a s 1152 (Int32.toNatClampNeg x1)).toInt = 8 ∨ (ps_a s 1152 (Int32.toNatClampNeg x1)).toInt = 9 ∨ (ps_a s 1152 (Int32.toNatClampNeg x1)).toInt = 10 ∨ (ps_a s 1152 (Int32.toNatClampNeg x1)).toInt = 17 ∨ (ps_a s 1152 (Int32.toNatClampNeg x1)).toInt = 18) : ps_At (d + 6) 252 219 [(0, .ref 1131), (1, .int x1)] [] s Q := by
  have r1_k := mf_51 J
  have r2_k : 0 ≤ (ps_a s 1152 (Int32.toNatClampNeg x1)).toInt ∧ (ps_a s 1152 (Int32.toNatClampNeg x1)).toInt ≤ 18 := ma_1152 (i := x1) J (show 0 ≤ x1.toInt from by omega) (show x1.toInt < 40 from by omega)
  refine pg_252_219 (d := d + 5) ?_
  refine ms_255 J hS hC hA hM (show 0 ≤ x1.toInt from by omega) (show x1.toInt < 40 from by omega) (show (ps_i s 1131 51).toInt ≤ 100 from by omega) (show (ps_a s 1152 (Int32.toNatClampNeg x1)).toInt = 8 ∨ (ps_a s 1152 (Int32.toNatClampNeg x1)).toInt = 9 ∨ (ps_a s 1152 (Int32.toNatClampNeg x1)).toInt = 10 ∨ (ps_a s 1152 (Int32.toNatClampNeg x1)).toInt = 17 ∨ (ps_a s 1152 (Int32.toNatClampNeg x1)).toInt = 18 from by omega) (fun s3 J3 K3 p3_0 p3_1 p3_2 p3_3 p3_4 => ?_)
  have K4 := kpt K K3 rfl rfl
  have KC := K3
  have hS : Sg (ps_a s3 1135) (ps_a s3 1136) (ps_a s3 1138) (ps_a s3 1139) (ps_i s3 1131 21).toInt σ := by rw [show ps_a s3 1135 = ps_a s 1135 from (K3.2 1135 rfl).1, show ps_a s3 1136 = ps_a s 1136 from (K3.2 1136 rfl).1, show ps_a s3 1138 = ps_a s 1138 from (K3.2 1138 rfl).1, show ps_a s3 1139 = ps_a s 1139 from (K3.2 1139 rfl).1, show ps_i s3 1131 21 = ps_i s 1131 21 from kp_i K3 21 rfl]; exact hS
  have p3_2' : (ps_i s 1131 51).toInt ≤ (ps_i s3 1131 51).toInt := p3_2
  have r5_k := mf_51 J3
  have p3_3' : (ps_i s3 1131 51).toInt ≤ (ps_i s 1131 51).toInt + 36 := p3_3
  have hA : As σ (ps_a s3 1134) x1.toInt (ps_i s3 1131 51).toInt := p3_0
  have ho : _ := p3_1
  have hRs : Res σ (ps_a s3 1149) (ps_i s3 1131 34).toInt (ps_i s3 1131 50).toInt := p3_4
  exact ms_252_232 (x1 := x1) (σ := σ) k   _ J3 K4 hS hA (OutB_tr hO ho) ((by rw [show ps_a s3 1157 = ps_a s 1157 from (KC.2 1157 rfl).1]; exact PSt_out (SC_p hC) ho (by omega))) hRs (show 0 ≤ x1.toInt from by omega) (show x1.toInt < 40 from by omega) (show (ps_i s3 1131 51).toInt ≤ 36 from by omega)

theorem ms_252_178 {x : Nat → Nat → Nat} {t : Int32} {d : Nat} {s0 : ps_S} {σ : mSig} {x1 : Int32} {Q : Option Value → ps_S → Prop} (k : ∀ (s' : ps_S), mJ x t s' → kp [1134, 1149, 1150, 1151, 1157, 1158, 1159, 1160] [34, 50, 51] s0 s' → (PSt σ (ps_a s' 1134) (ps_a s' 1157) x1.toInt) → ((ps_i s' 1131 50).toInt ≤ 0 → PSt σ (ps_a s' 1134) (ps_a s' 1157) (x1.toInt + 1)) → (∀ k : Nat, 21320 ≤ k → ps_a s' 1134 k = ps_a s0 1134 k) → Q none s') (s : ps_S) (J : mJ x t s) (K : kp [1134, 1149, 1150, 1151, 1157, 1158, 1159, 1160] [34, 50, 51] s0 s) (hS : Sg (ps_a s 1135) (ps_a s 1136) (ps_a s 1138) (ps_a s 1139) (ps_i s 1131 21).toInt σ) (hC : SC σ (ps_a s 1134) (ps_a s 1157) (ps_a s 1152) (ps_a s 1153) (ps_a s 1154) (ps_a s 1155) (ps_i s 1131 21).toInt x1.toInt) (hA : As σ (ps_a s 1134) x1.toInt (ps_i s 1131 51).toInt) (hO : OutB (ps_a s0 1134) (ps_a s 1134) x1.toInt) (hM : Md (ps_a s 1149) (ps_i s 1131 34).toInt ([] : List Nat)) (i5_k : 0 ≤ x1.toInt) (i6_k : x1.toInt < 40) (i7_k : (ps_i s 1131 51).toInt = 0) : ps_At (d + 6) 252 178 [(0, .ref 1131), (1, .int x1)] [] s Q := by
  have r1_k := mf_51 J
  refine pg_252_178 (d := d + 5) ?_
  refine ps_nd_i (show pm_in x1 40 = true from xgi (show 0 ≤ x1.toInt from by omega) (show x1.toInt < 40 from by omega)) ?_
  have r2_k : 0 ≤ (ps_a s 1152 (Int32.toNatClampNeg x1)).toInt ∧ (ps_a s 1152 (Int32.toNatClampNeg x1)).toInt ≤ 18 := ma_1152 (i := x1) J (show 0 ≤ x1.toInt from by omega) (show x1.toInt < 40 from by omega)
  refine And.intro (fun h3_k => ?_) (fun h3_k => ?_)
  · have f4_k : (8 : Int) ≤ (ps_a s 1152 (Int32.toNatClampNeg x1)).toInt := xle h3_k
    refine ps_nd_i (show pm_in x1 40 = true from xgi (show 0 ≤ x1.toInt from by omega) (show x1.toInt < 40 from by omega)) ?_
    refine And.intro (fun h5_k => ?_) (fun h5_k => ?_)
    · have f6_k : (ps_a s 1152 (Int32.toNatClampNeg x1)).toInt < (11 : Int) := xlt h5_k
      exact ms_252_219 (x1 := x1) (σ := σ) k   _ J K hS hC hA hO hM (show 0 ≤ x1.toInt from by omega) (show x1.toInt < 40 from by omega) (show (ps_i s 1131 51).toInt = 0 from by omega) (show (ps_a s 1152 (Int32.toNatClampNeg x1)).toInt = 8 ∨ (ps_a s 1152 (Int32.toNatClampNeg x1)).toInt = 9 ∨ (ps_a s 1152 (Int32.toNatClampNeg x1)).toInt = 10 ∨ (ps_a s 1152 (Int32.toNatClampNeg x1)).toInt = 17 ∨ (ps_a s 1152 (Int32.toNatClampNeg x1)).toInt = 18 from by omega)
    · have f7_k : (11 : Int) ≤ (ps_a s 1152 (Int32.toNatClampNeg x1)).toInt := xle h5_k
      refine ps_nd_i (show pm_in x1 40 = true from xgi (show 0 ≤ x1.toInt from by omega) (show x1.toInt < 40 from by omega)) ?_
      refine And.intro (fun h8_k => ?_) (fun h8_k => ?_)
      · have f9_k : (ps_a s 1152 (Int32.toNatClampNeg x1)).toInt ≤ (16 : Int) := xle h8_k
        refine ms_257 J hS hC hA hM (show 0 ≤ x1.toInt from by omega) (show x1.toInt < 40 from by omega) (show (ps_i s 1131 51).toInt ≤ 100 from by omega) (show 11 ≤ (ps_a s 1152 (Int32.toNatClampNeg x1)).toInt from by omega) (show (ps_a s 1152 (Int32.toNatClampNeg x1)).toInt ≤ 16 from by omega) (fun s10 J10 K10 p10_0 p10_1 p10_2 p10_3 p10_4 => ?_)
        have K11 := kpt K K10 rfl rfl
        have KC := K10
        have hS : Sg (ps_a s10 1135) (ps_a s10 1136) (ps_a s10 1138) (ps_a s10 1139) (ps_i s10 1131 21).toInt σ := by rw [show ps_a s10 1135 = ps_a s 1135 from (K10.2 1135 rfl).1, show ps_a s10 1136 = ps_a s 1136 from (K10.2 1136 rfl).1, show ps_a s10 1138 = ps_a s 1138 from (K10.2 1138 rfl).1, show ps_a s10 1139 = ps_a s 1139 from (K10.2 1139 rfl).1, show ps_i s10 1131 21 = ps_i s 1131 21 from kp_i K10 21 rfl]; exact hS
        have p10_2' : (ps_i s 1131 51).toInt ≤ (ps_i s10 1131 51).toInt := p10_2
        have r12_k := mf_51 J10
        have p10_3' : (ps_i s10 1131 51).toInt ≤ (ps_i s 1131 51).toInt + 36 := p10_3
        have hA : As σ (ps_a s10 1134) x1.toInt (ps_i s10 1131 51).toInt := p10_0
        have ho : _ := p10_1
        have hRs : Res σ (ps_a s10 1149) (ps_i s10 1131 34).toInt (ps_i s10 1131 50).toInt := p10_4
        exact ms_252_232 (x1 := x1) (σ := σ) k   _ J10 K11 hS hA (OutB_tr hO ho) ((by rw [show ps_a s10 1157 = ps_a s 1157 from (KC.2 1157 rfl).1]; exact PSt_out (SC_p hC) ho (by omega))) hRs (show 0 ≤ x1.toInt from by omega) (show x1.toInt < 40 from by omega) (show (ps_i s10 1131 51).toInt ≤ 36 from by omega)
      · have f13_k : (16 : Int) < (ps_a s 1152 (Int32.toNatClampNeg x1)).toInt := xlt h8_k
        exact ms_252_219 (x1 := x1) (σ := σ) k   _ J K hS hC hA hO hM (show 0 ≤ x1.toInt from by omega) (show x1.toInt < 40 from by omega) (show (ps_i s 1131 51).toInt = 0 from by omega) (show (ps_a s 1152 (Int32.toNatClampNeg x1)).toInt = 8 ∨ (ps_a s 1152 (Int32.toNatClampNeg x1)).toInt = 9 ∨ (ps_a s 1152 (Int32.toNatClampNeg x1)).toInt = 10 ∨ (ps_a s 1152 (Int32.toNatClampNeg x1)).toInt = 17 ∨ (ps_a s 1152 (Int32.toNatClampNeg x1)).toInt = 18 from by omega)
  · have f14_k : (ps_a s 1152 (Int32.toNatClampNeg x1)).toInt < (8 : Int) := xlt h3_k
    refine ms_253 J hS hC hA hM (show 0 ≤ x1.toInt from by omega) (show x1.toInt < 40 from by omega) (show (ps_i s 1131 51).toInt ≤ 100 from by omega) (show (ps_a s 1152 (Int32.toNatClampNeg x1)).toInt < 8 from by omega) (fun s15 J15 K15 p15_0 p15_1 p15_2 p15_3 p15_4 => ?_)
    have K16 := kpt K K15 rfl rfl
    have KC := K15
    have hS : Sg (ps_a s15 1135) (ps_a s15 1136) (ps_a s15 1138) (ps_a s15 1139) (ps_i s15 1131 21).toInt σ := by rw [show ps_a s15 1135 = ps_a s 1135 from (K15.2 1135 rfl).1, show ps_a s15 1136 = ps_a s 1136 from (K15.2 1136 rfl).1, show ps_a s15 1138 = ps_a s 1138 from (K15.2 1138 rfl).1, show ps_a s15 1139 = ps_a s 1139 from (K15.2 1139 rfl).1, show ps_i s15 1131 21 = ps_i s 1131 21 from kp_i K15 21 rfl]; exact hS
    have p15_2' : (ps_i s 1131 51).toInt ≤ (ps_i s15 1131 51).toInt := p15_2
    have r17_k := mf_51 J15
    have p15_3' : (ps_i s15 1131 51).toInt ≤ (ps_i s 1131 51).toInt + 24 := p15_3
    have hA : As σ (ps_a s15 1134) x1.toInt (ps_i s15 1131 51).toInt := p15_0
    have ho : _ := p15_1
    have hRs : Res σ (ps_a s15 1149) (ps_i s15 1131 34).toInt (ps_i s15 1131 50).toInt := p15_4
    exact ms_252_232 (x1 := x1) (σ := σ) k   _ J15 K16 hS hA (OutB_tr hO ho) ((by rw [show ps_a s15 1157 = ps_a s 1157 from (KC.2 1157 rfl).1]; exact PSt_out (SC_p hC) ho (by omega))) hRs (show 0 ≤ x1.toInt from by omega) (show x1.toInt < 40 from by omega) (show (ps_i s15 1131 51).toInt ≤ 36 from by omega)

theorem ms_252_162 {x : Nat → Nat → Nat} {t : Int32} {d : Nat} {s0 : ps_S} {σ : mSig} {x1 : Int32} {Q : Option Value → ps_S → Prop} (k : ∀ (s' : ps_S), mJ x t s' → kp [1134, 1149, 1150, 1151, 1157, 1158, 1159, 1160] [34, 50, 51] s0 s' → (PSt σ (ps_a s' 1134) (ps_a s' 1157) x1.toInt) → ((ps_i s' 1131 50).toInt ≤ 0 → PSt σ (ps_a s' 1134) (ps_a s' 1157) (x1.toInt + 1)) → (∀ k : Nat, 21320 ≤ k → ps_a s' 1134 k = ps_a s0 1134 k) → Q none s') (x2 : Int32) (s : ps_S) (J : mJ x t s) (K : kp [1134, 1149, 1150, 1151, 1157, 1158, 1159, 1160] [34, 50, 51] s0 s) (hS : Sg (ps_a s 1135) (ps_a s 1136) (ps_a s 1138) (ps_a s 1139) (ps_i s 1131 21).toInt σ) (hC : SC σ (ps_a s 1134) (ps_a s 1157) (ps_a s 1152) (ps_a s 1153) (ps_a s 1154) (ps_a s 1155) (ps_i s 1131 21).toInt x1.toInt) (hA : As σ (ps_a s 1134) x1.toInt (ps_i s 1131 51).toInt) (hO : OutB (ps_a s0 1134) (ps_a s 1134) x1.toInt) (hM : Md (ps_a s 1149) (ps_i s 1131 34).toInt ([] : List Nat)) (i5_k : 0 ≤ x1.toInt) (i6_k : x1.toInt < 40) (i7_k : (ps_i s 1131 51).toInt = 0) (i8_k : ((ps_a s 1152 (Int32.toNatClampNeg x1)).toInt = 2 ∧ x2.toInt = 0) ∨ ((((ps_a s 1152 (Int32.toNatClampNeg x1)).toInt = 0 ∨ (ps_a s 1152 (Int32.toNatClampNeg x1)).toInt = 1 ∨ (ps_a s 1152 (Int32.toNatClampNeg x1)).toInt = 15) ∧ x2.toInt = 0) ∨ (((ps_a s 1152 (Int32.toNatClampNeg x1)).toInt = 3 ∨ (ps_a s 1152 (Int32.toNatClampNeg x1)).toInt = 9 ∨ (ps_a s 1152 (Int32.toNatClampNeg x1)).toInt = 14 ∨ (ps_a s 1152 (Int32.toNatClampNeg x1)).toInt = 16) ∧ x2.toInt = 2) ∨ ((ps_a s 1152 (Int32.toNatClampNeg x1)).toInt = 8 ∧ x2.toInt = 3) ∨ (x2.toInt = 1 ∧ (ps_a s 1152 (Int32.toNatClampNeg x1)).toInt ≠ 0 ∧ (ps_a s 1152 (Int32.toNatClampNeg x1)).toInt ≠ 1 ∧ (ps_a s 1152 (Int32.toNatClampNeg x1)).toInt ≠ 15 ∧ (ps_a s 1152 (Int32.toNatClampNeg x1)).toInt ≠ 3 ∧ (ps_a s 1152 (Int32.toNatClampNeg x1)).toInt ≠ 9 ∧ (ps_a s 1152 (Int32.toNatClampNeg x1)).toInt ≠ 14 ∧ (ps_a s 1152 (Int32.toNatClampNeg x1)).toInt ≠ 16 ∧ (ps_a s 1152 (Int32.toNatClampNeg x1)).toInt ≠ 8))) : ps_At (d + 6) 252 162 [(0, .ref 1131), (1, .int x1), (2, .int x2)] [] s Q := by
  have r1_k := mf_51 J
  have r2_k : 0 ≤ (ps_a s 1152 (Int32.toNatClampNeg x1)).toInt ∧ (ps_a s 1152 (Int32.toNatClampNeg x1)).toInt ≤ 18 := ma_1152 (i := x1) J (show 0 ≤ x1.toInt from by omega) (show x1.toInt < 40 from by omega)
  refine pg_252_162 (d := d + 5) ?_
  refine And.intro (fun h3_k => ?_) (fun h3_k => ?_)
  · have f4_k : x2.toInt ≤ (2 : Int) := xle h3_k
    exact ms_252_178 (x1 := x1) (σ := σ) k   _ J K hS hC hA hO hM (show 0 ≤ x1.toInt from by omega) (show x1.toInt < 40 from by omega) (show (ps_i s 1131 51).toInt = 0 from by omega)
  · have f5_k : (2 : Int) < x2.toInt := xlt h3_k
    have q3_k := SC_l3 hC rfl (by omega)
    refine ps_nd_i (show pm_in x1 40 = true from xgi (show 0 ≤ x1.toInt from by omega) (show x1.toInt < 40 from by omega)) ?_
    have r6_k : 0 ≤ (ps_a s 1155 (Int32.toNatClampNeg x1)).toInt ∧ (ps_a s 1155 (Int32.toNatClampNeg x1)).toInt ≤ 9999 := ma_1155 (i := x1) J (show 0 ≤ x1.toInt from by omega) (show x1.toInt < 40 from by omega)
    refine ms_251 J (show 0 ≤ x1.toInt from by omega) (show x1.toInt < 40 from by omega) (show 0 ≤ (ps_a s 1155 (Int32.toNatClampNeg x1)).toInt from by omega) (show (ps_a s 1155 (Int32.toNatClampNeg x1)).toInt < 40 from by omega) (fun s7 J7 K7 => ?_)
    have K8 := kpt K K7 rfl rfl
    have KC := K7
    have hS : Sg (ps_a s7 1135) (ps_a s7 1136) (ps_a s7 1138) (ps_a s7 1139) (ps_i s7 1131 21).toInt σ := by rw [show ps_a s7 1135 = ps_a s 1135 from (K7.2 1135 rfl).1, show ps_a s7 1136 = ps_a s 1136 from (K7.2 1136 rfl).1, show ps_a s7 1138 = ps_a s 1138 from (K7.2 1138 rfl).1, show ps_a s7 1139 = ps_a s 1139 from (K7.2 1139 rfl).1, show ps_i s7 1131 21 = ps_i s 1131 21 from kp_i K7 21 rfl]; exact hS
    have hC : SC σ (ps_a s7 1134) (ps_a s7 1157) (ps_a s7 1152) (ps_a s7 1153) (ps_a s7 1154) (ps_a s7 1155) (ps_i s7 1131 21).toInt x1.toInt := by rw [show ps_a s7 1134 = ps_a s 1134 from (K7.2 1134 rfl).1, show ps_a s7 1157 = ps_a s 1157 from (K7.2 1157 rfl).1, show ps_a s7 1152 = ps_a s 1152 from (K7.2 1152 rfl).1, show ps_a s7 1153 = ps_a s 1153 from (K7.2 1153 rfl).1, show ps_a s7 1154 = ps_a s 1154 from (K7.2 1154 rfl).1, show ps_a s7 1155 = ps_a s 1155 from (K7.2 1155 rfl).1, show ps_i s7 1131 21 = ps_i s 1131 21 from kp_i K7 21 rfl]; exact hC
    have hA : As σ (ps_a s7 1134) x1.toInt (ps_i s7 1131 51).toInt := by rw [show ps_a s7 1134 = ps_a s 1134 from (K7.2 1134 rfl).1, show ps_i s7 1131 51 = ps_i s 1131 51 from kp_i K7 51 rfl]; exact hA
    have hO : OutB (ps_a s0 1134) (ps_a s7 1134) x1.toInt := by rw [show ps_a s7 1134 = ps_a s 1134 from (K7.2 1134 rfl).1]; exact hO
    have hM : Md (ps_a s7 1149) (ps_i s7 1131 34).toInt ([] : List Nat) := by rw [show ps_a s7 1149 = ps_a s 1149 from (K7.2 1149 rfl).1, show ps_i s7 1131 34 = ps_i s 1131 34 from kp_i K7 34 rfl]; exact hM
    have r9_k := mf_51 J7
    have u10 : (ps_i s7 1131 51).toInt = (ps_i s 1131 51).toInt := xeq (kp_i K7 51 rfl)
    exact ms_252_178 (x1 := x1) (σ := σ) k   _ J7 K8 hS hC hA hO hM (show 0 ≤ x1.toInt from by omega) (show x1.toInt < 40 from by omega) (show (ps_i s7 1131 51).toInt = 0 from by omega)

theorem ms_252_146 {x : Nat → Nat → Nat} {t : Int32} {d : Nat} {s0 : ps_S} {σ : mSig} {x1 : Int32} {Q : Option Value → ps_S → Prop} (k : ∀ (s' : ps_S), mJ x t s' → kp [1134, 1149, 1150, 1151, 1157, 1158, 1159, 1160] [34, 50, 51] s0 s' → (PSt σ (ps_a s' 1134) (ps_a s' 1157) x1.toInt) → ((ps_i s' 1131 50).toInt ≤ 0 → PSt σ (ps_a s' 1134) (ps_a s' 1157) (x1.toInt + 1)) → (∀ k : Nat, 21320 ≤ k → ps_a s' 1134 k = ps_a s0 1134 k) → Q none s') (x2 : Int32) (s : ps_S) (J : mJ x t s) (K : kp [1134, 1149, 1150, 1151, 1157, 1158, 1159, 1160] [34, 50, 51] s0 s) (hS : Sg (ps_a s 1135) (ps_a s 1136) (ps_a s 1138) (ps_a s 1139) (ps_i s 1131 21).toInt σ) (hC : SC σ (ps_a s 1134) (ps_a s 1157) (ps_a s 1152) (ps_a s 1153) (ps_a s 1154) (ps_a s 1155) (ps_i s 1131 21).toInt x1.toInt) (hA : As σ (ps_a s 1134) x1.toInt (ps_i s 1131 51).toInt) (hO : OutB (ps_a s0 1134) (ps_a s 1134) x1.toInt) (hM : Md (ps_a s 1149) (ps_i s 1131 34).toInt ([] : List Nat)) (i5_k : 0 ≤ x1.toInt) (i6_k : x1.toInt < 40) (i7_k : (ps_i s 1131 51).toInt = 0) (i8_k : ((ps_a s 1152 (Int32.toNatClampNeg x1)).toInt = 2 ∧ x2.toInt = 0) ∨ ((((ps_a s 1152 (Int32.toNatClampNeg x1)).toInt = 0 ∨ (ps_a s 1152 (Int32.toNatClampNeg x1)).toInt = 1 ∨ (ps_a s 1152 (Int32.toNatClampNeg x1)).toInt = 15) ∧ x2.toInt = 0) ∨ (((ps_a s 1152 (Int32.toNatClampNeg x1)).toInt = 3 ∨ (ps_a s 1152 (Int32.toNatClampNeg x1)).toInt = 9 ∨ (ps_a s 1152 (Int32.toNatClampNeg x1)).toInt = 14 ∨ (ps_a s 1152 (Int32.toNatClampNeg x1)).toInt = 16) ∧ x2.toInt = 2) ∨ ((ps_a s 1152 (Int32.toNatClampNeg x1)).toInt = 8 ∧ x2.toInt = 3) ∨ (x2.toInt = 1 ∧ (ps_a s 1152 (Int32.toNatClampNeg x1)).toInt ≠ 0 ∧ (ps_a s 1152 (Int32.toNatClampNeg x1)).toInt ≠ 1 ∧ (ps_a s 1152 (Int32.toNatClampNeg x1)).toInt ≠ 15 ∧ (ps_a s 1152 (Int32.toNatClampNeg x1)).toInt ≠ 3 ∧ (ps_a s 1152 (Int32.toNatClampNeg x1)).toInt ≠ 9 ∧ (ps_a s 1152 (Int32.toNatClampNeg x1)).toInt ≠ 14 ∧ (ps_a s 1152 (Int32.toNatClampNeg x1)).toInt ≠ 16 ∧ (ps_a s 1152 (Int32.toNatClampNeg x1)).toInt ≠ 8))) : ps_At (d + 6) 252 146 [(0, .ref 1131), (1, .int x1), (2, .int x2)] [] s Q := by
  have r1_k := mf_51 J
  have r2_k : 0 ≤ (ps_a s 1152 (Int32.toNatClampNeg x1)).toInt ∧ (ps_a s 1152 (Int32.toNatClampNeg x1)).toInt ≤ 18 := ma_1152 (i := x1) J (show 0 ≤ x1.toInt from by omega) (show x1.toInt < 40 from by omega)
  refine pg_252_146 (d := d + 5) ?_
  refine And.intro (fun h3_k => ?_) (fun h3_k => ?_)
  · have f4_k : x2.toInt ≤ (1 : Int) := xle h3_k
    exact ms_252_162 (x1 := x1) (σ := σ) k  x2 _ J K hS hC hA hO hM (show 0 ≤ x1.toInt from by omega) (show x1.toInt < 40 from by omega) (show (ps_i s 1131 51).toInt = 0 from by omega) (show ((ps_a s 1152 (Int32.toNatClampNeg x1)).toInt = 2 ∧ x2.toInt = 0) ∨ ((((ps_a s 1152 (Int32.toNatClampNeg x1)).toInt = 0 ∨ (ps_a s 1152 (Int32.toNatClampNeg x1)).toInt = 1 ∨ (ps_a s 1152 (Int32.toNatClampNeg x1)).toInt = 15) ∧ x2.toInt = 0) ∨ (((ps_a s 1152 (Int32.toNatClampNeg x1)).toInt = 3 ∨ (ps_a s 1152 (Int32.toNatClampNeg x1)).toInt = 9 ∨ (ps_a s 1152 (Int32.toNatClampNeg x1)).toInt = 14 ∨ (ps_a s 1152 (Int32.toNatClampNeg x1)).toInt = 16) ∧ x2.toInt = 2) ∨ ((ps_a s 1152 (Int32.toNatClampNeg x1)).toInt = 8 ∧ x2.toInt = 3) ∨ (x2.toInt = 1 ∧ (ps_a s 1152 (Int32.toNatClampNeg x1)).toInt ≠ 0 ∧ (ps_a s 1152 (Int32.toNatClampNeg x1)).toInt ≠ 1 ∧ (ps_a s 1152 (Int32.toNatClampNeg x1)).toInt ≠ 15 ∧ (ps_a s 1152 (Int32.toNatClampNeg x1)).toInt ≠ 3 ∧ (ps_a s 1152 (Int32.toNatClampNeg x1)).toInt ≠ 9 ∧ (ps_a s 1152 (Int32.toNatClampNeg x1)).toInt ≠ 14 ∧ (ps_a s 1152 (Int32.toNatClampNeg x1)).toInt ≠ 16 ∧ (ps_a s 1152 (Int32.toNatClampNeg x1)).toInt ≠ 8)) from by omega)
  · have f5_k : (1 : Int) < x2.toInt := xlt h3_k
    have q2_k := SC_l2 hC rfl (by omega)
    refine ps_nd_i (show pm_in x1 40 = true from xgi (show 0 ≤ x1.toInt from by omega) (show x1.toInt < 40 from by omega)) ?_
    have r6_k : 0 ≤ (ps_a s 1154 (Int32.toNatClampNeg x1)).toInt ∧ (ps_a s 1154 (Int32.toNatClampNeg x1)).toInt ≤ 9999 := ma_1154 (i := x1) J (show 0 ≤ x1.toInt from by omega) (show x1.toInt < 40 from by omega)
    refine ms_251 J (show 0 ≤ x1.toInt from by omega) (show x1.toInt < 40 from by omega) (show 0 ≤ (ps_a s 1154 (Int32.toNatClampNeg x1)).toInt from by omega) (show (ps_a s 1154 (Int32.toNatClampNeg x1)).toInt < 40 from by omega) (fun s7 J7 K7 => ?_)
    have K8 := kpt K K7 rfl rfl
    have KC := K7
    have hS : Sg (ps_a s7 1135) (ps_a s7 1136) (ps_a s7 1138) (ps_a s7 1139) (ps_i s7 1131 21).toInt σ := by rw [show ps_a s7 1135 = ps_a s 1135 from (K7.2 1135 rfl).1, show ps_a s7 1136 = ps_a s 1136 from (K7.2 1136 rfl).1, show ps_a s7 1138 = ps_a s 1138 from (K7.2 1138 rfl).1, show ps_a s7 1139 = ps_a s 1139 from (K7.2 1139 rfl).1, show ps_i s7 1131 21 = ps_i s 1131 21 from kp_i K7 21 rfl]; exact hS
    have hC : SC σ (ps_a s7 1134) (ps_a s7 1157) (ps_a s7 1152) (ps_a s7 1153) (ps_a s7 1154) (ps_a s7 1155) (ps_i s7 1131 21).toInt x1.toInt := by rw [show ps_a s7 1134 = ps_a s 1134 from (K7.2 1134 rfl).1, show ps_a s7 1157 = ps_a s 1157 from (K7.2 1157 rfl).1, show ps_a s7 1152 = ps_a s 1152 from (K7.2 1152 rfl).1, show ps_a s7 1153 = ps_a s 1153 from (K7.2 1153 rfl).1, show ps_a s7 1154 = ps_a s 1154 from (K7.2 1154 rfl).1, show ps_a s7 1155 = ps_a s 1155 from (K7.2 1155 rfl).1, show ps_i s7 1131 21 = ps_i s 1131 21 from kp_i K7 21 rfl]; exact hC
    have hA : As σ (ps_a s7 1134) x1.toInt (ps_i s7 1131 51).toInt := by rw [show ps_a s7 1134 = ps_a s 1134 from (K7.2 1134 rfl).1, show ps_i s7 1131 51 = ps_i s 1131 51 from kp_i K7 51 rfl]; exact hA
    have hO : OutB (ps_a s0 1134) (ps_a s7 1134) x1.toInt := by rw [show ps_a s7 1134 = ps_a s 1134 from (K7.2 1134 rfl).1]; exact hO
    have hM : Md (ps_a s7 1149) (ps_i s7 1131 34).toInt ([] : List Nat) := by rw [show ps_a s7 1149 = ps_a s 1149 from (K7.2 1149 rfl).1, show ps_i s7 1131 34 = ps_i s 1131 34 from kp_i K7 34 rfl]; exact hM
    have r9_k := mf_51 J7
    have u10 : (ps_i s7 1131 51).toInt = (ps_i s 1131 51).toInt := xeq (kp_i K7 51 rfl)
    have r11_k : 0 ≤ (ps_a s7 1152 (Int32.toNatClampNeg x1)).toInt ∧ (ps_a s7 1152 (Int32.toNatClampNeg x1)).toInt ≤ 18 := ma_1152 (i := x1) J7 (show 0 ≤ x1.toInt from by omega) (show x1.toInt < 40 from by omega)
    have u12 : (ps_a s7 1152 (Int32.toNatClampNeg x1)).toInt = (ps_a s 1152 (Int32.toNatClampNeg x1)).toInt := xeq (kp_a K7 1152 rfl _)
    exact ms_252_162 (x1 := x1) (σ := σ) k  x2 _ J7 K8 hS hC hA hO hM (show 0 ≤ x1.toInt from by omega) (show x1.toInt < 40 from by omega) (show (ps_i s7 1131 51).toInt = 0 from by omega) (show ((ps_a s7 1152 (Int32.toNatClampNeg x1)).toInt = 2 ∧ x2.toInt = 0) ∨ ((((ps_a s7 1152 (Int32.toNatClampNeg x1)).toInt = 0 ∨ (ps_a s7 1152 (Int32.toNatClampNeg x1)).toInt = 1 ∨ (ps_a s7 1152 (Int32.toNatClampNeg x1)).toInt = 15) ∧ x2.toInt = 0) ∨ (((ps_a s7 1152 (Int32.toNatClampNeg x1)).toInt = 3 ∨ (ps_a s7 1152 (Int32.toNatClampNeg x1)).toInt = 9 ∨ (ps_a s7 1152 (Int32.toNatClampNeg x1)).toInt = 14 ∨ (ps_a s7 1152 (Int32.toNatClampNeg x1)).toInt = 16) ∧ x2.toInt = 2) ∨ ((ps_a s7 1152 (Int32.toNatClampNeg x1)).toInt = 8 ∧ x2.toInt = 3) ∨ (x2.toInt = 1 ∧ (ps_a s7 1152 (Int32.toNatClampNeg x1)).toInt ≠ 0 ∧ (ps_a s7 1152 (Int32.toNatClampNeg x1)).toInt ≠ 1 ∧ (ps_a s7 1152 (Int32.toNatClampNeg x1)).toInt ≠ 15 ∧ (ps_a s7 1152 (Int32.toNatClampNeg x1)).toInt ≠ 3 ∧ (ps_a s7 1152 (Int32.toNatClampNeg x1)).toInt ≠ 9 ∧ (ps_a s7 1152 (Int32.toNatClampNeg x1)).toInt ≠ 14 ∧ (ps_a s7 1152 (Int32.toNatClampNeg x1)).toInt ≠ 16 ∧ (ps_a s7 1152 (Int32.toNatClampNeg x1)).toInt ≠ 8)) from by omega)

theorem ms_252_84 {x : Nat → Nat → Nat} {t : Int32} {d : Nat} {s0 : ps_S} {σ : mSig} {x1 : Int32} {Q : Option Value → ps_S → Prop} (k : ∀ (s' : ps_S), mJ x t s' → kp [1134, 1149, 1150, 1151, 1157, 1158, 1159, 1160] [34, 50, 51] s0 s' → (PSt σ (ps_a s' 1134) (ps_a s' 1157) x1.toInt) → ((ps_i s' 1131 50).toInt ≤ 0 → PSt σ (ps_a s' 1134) (ps_a s' 1157) (x1.toInt + 1)) → (∀ k : Nat, 21320 ≤ k → ps_a s' 1134 k = ps_a s0 1134 k) → Q none s') (s : ps_S) (J : mJ x t s) (K : kp [1134, 1149, 1150, 1151, 1157, 1158, 1159, 1160] [34, 50, 51] s0 s) (hS : Sg (ps_a s 1135) (ps_a s 1136) (ps_a s 1138) (ps_a s 1139) (ps_i s 1131 21).toInt σ) (hP : PSt σ (ps_a s 1134) (ps_a s 1157) x1.toInt) (hB : SB σ (ps_a s 1134) (ps_a s 1152) (ps_a s 1153) (ps_i s 1131 21).toInt (ps_i s 1131 54).toInt x1.toInt) (hA : As σ (ps_a s 1134) x1.toInt (ps_i s 1131 51).toInt) (hO : OutB (ps_a s0 1134) (ps_a s 1134) x1.toInt) (hM : Md (ps_a s 1149) (ps_i s 1131 34).toInt ([] : List Nat)) (i6_k : 0 ≤ x1.toInt) (i7_k : x1.toInt < 40) (i8_k : (ps_i s 1131 51).toInt = 0) : ps_At (d + 6) 252 84 [(0, .ref 1131), (1, .int x1)] [] s Q := by
  have r1_k := mf_51 J
  refine pg_252_84 (d := d + 5) ?_
  refine ps_nd_i (show pm_in x1 40 = true from xgi (show 0 ≤ x1.toInt from by omega) (show x1.toInt < 40 from by omega)) ?_
  have J2 := mw_b (r := 1160) (i := (Int32.toNatClampNeg x1)) (v := ((1 : Int64) <<< (Int32.toInt64 x1 &&& 63))) J
  have K3 := kpb' K (r := 1160) (i := (Int32.toNatClampNeg x1)) (v := ((1 : Int64) <<< (Int32.toInt64 x1 &&& 63))) rfl
  refine ms_250 J2 (show 0 ≤ x1.toInt from by omega) (show x1.toInt < 40 from by omega) (fun v4 p4_0 p4_1 p4_2 p4_3 b4 => ?_)
  have p4_0' : v4.toInt = 0 ∨ (ps_a s 1152 (Int32.toNatClampNeg x1)).toInt ≠ 2 ∨ (ps_a s 1153 (Int32.toNatClampNeg x1)).toInt < (ps_i s 1131 54).toInt := p4_0
  have r5_k := mf_54 J
  have r6_k : 0 ≤ (ps_a s 1152 (Int32.toNatClampNeg x1)).toInt ∧ (ps_a s 1152 (Int32.toNatClampNeg x1)).toInt ≤ 18 := ma_1152 (i := x1) J (show 0 ≤ x1.toInt from by omega) (show x1.toInt < 40 from by omega)
  have r7_k : -1 ≤ (ps_a s 1153 (Int32.toNatClampNeg x1)).toInt ∧ (ps_a s 1153 (Int32.toNatClampNeg x1)).toInt ≤ 9999 := ma_1153 (i := x1) J (show 0 ≤ x1.toInt from by omega) (show x1.toInt < 40 from by omega)
  have p4_1' : v4.toInt = 0 ∨ (ps_a s 1152 (Int32.toNatClampNeg x1)).toInt = 0 ∨ (ps_a s 1152 (Int32.toNatClampNeg x1)).toInt = 1 ∨ (ps_a s 1152 (Int32.toNatClampNeg x1)).toInt = 2 ∨ (ps_a s 1152 (Int32.toNatClampNeg x1)).toInt = 15 ∨ (ps_a s 1153 (Int32.toNatClampNeg x1)).toInt < x1.toInt := p4_1
  have p4_2' : v4.toInt = 0 ∨ ((ps_a s 1152 (Int32.toNatClampNeg x1)).toInt ≠ 3 ∧ (ps_a s 1152 (Int32.toNatClampNeg x1)).toInt ≠ 9 ∧ (ps_a s 1152 (Int32.toNatClampNeg x1)).toInt ≠ 14 ∧ (ps_a s 1152 (Int32.toNatClampNeg x1)).toInt ≠ 16 ∧ (ps_a s 1152 (Int32.toNatClampNeg x1)).toInt ≠ 8) ∨ (ps_a s 1154 (Int32.toNatClampNeg x1)).toInt < x1.toInt := p4_2
  have r8_k : 0 ≤ (ps_a s 1154 (Int32.toNatClampNeg x1)).toInt ∧ (ps_a s 1154 (Int32.toNatClampNeg x1)).toInt ≤ 9999 := ma_1154 (i := x1) J (show 0 ≤ x1.toInt from by omega) (show x1.toInt < 40 from by omega)
  have p4_3' : v4.toInt = 0 ∨ (ps_a s 1152 (Int32.toNatClampNeg x1)).toInt ≠ 8 ∨ (ps_a s 1155 (Int32.toNatClampNeg x1)).toInt < x1.toInt := p4_3
  have r9_k : 0 ≤ (ps_a s 1155 (Int32.toNatClampNeg x1)).toInt ∧ (ps_a s 1155 (Int32.toNatClampNeg x1)).toInt ≤ 9999 := ma_1155 (i := x1) J (show 0 ≤ x1.toInt from by omega) (show x1.toInt < 40 from by omega)
  refine And.intro (fun h10_k => ?_) (fun h10_k => ?_)
  · have f11_k : v4.toInt ≠ (0 : Int) := xne h10_k
    have hg1 := ma_1153 (i := x1) J (by omega) (by omega)
    have hg2 := ma_1154 (i := x1) J (by omega) (by omega)
    have hg3 := ma_1155 (i := x1) J (by omega) (by omega)
    have hbk := mf_21 J
    have hth := mf_54 J
    have hC : SC σ (ps_a s 1134) (ps_a s 1157) (ps_a s 1152) (ps_a s 1153) (ps_a s 1154) (ps_a s 1155) (ps_i s 1131 21).toInt x1.toInt := SB_SC hB hP ⟨by omega, by omega, hbk.1, hg2.1, hg3.1⟩ (fun z1_k z2_k z3_k z4_k => (by have z1_k : (ps_a s 1152 (Int32.toNatClampNeg x1)).toInt ≠ 0 := z1_k; have z2_k : (ps_a s 1152 (Int32.toNatClampNeg x1)).toInt ≠ 1 := z2_k; have z3_k : (ps_a s 1152 (Int32.toNatClampNeg x1)).toInt ≠ 2 := z3_k; have z4_k : (ps_a s 1152 (Int32.toNatClampNeg x1)).toInt ≠ 15 := z4_k; show (ps_a s 1153 (Int32.toNatClampNeg x1)).toInt < x1.toInt; omega)) (fun z_k => (by have z_k : (ps_a s 1152 (Int32.toNatClampNeg x1)).toInt = 3 ∨ (ps_a s 1152 (Int32.toNatClampNeg x1)).toInt = 9 ∨ (ps_a s 1152 (Int32.toNatClampNeg x1)).toInt = 14 ∨ (ps_a s 1152 (Int32.toNatClampNeg x1)).toInt = 16 ∨ (ps_a s 1152 (Int32.toNatClampNeg x1)).toInt = 8 := z_k; show (ps_a s 1154 (Int32.toNatClampNeg x1)).toInt < x1.toInt; omega)) (fun z_k => (by have z_k : (ps_a s 1152 (Int32.toNatClampNeg x1)).toInt = 8 := z_k; show (ps_a s 1155 (Int32.toNatClampNeg x1)).toInt < x1.toInt; omega)) (fun z_k => (by have z_k : (ps_a s 1152 (Int32.toNatClampNeg x1)).toInt = 2 := z_k; show (ps_a s 1153 (Int32.toNatClampNeg x1)).toInt < (ps_i s 1131 54).toInt; omega))
    have g0 : (ps_a s 1152 (Int32.toNatClampNeg x1)).toInt ≠ 0 → (ps_a s 1152 (Int32.toNatClampNeg x1)).toInt ≠ 15 → 0 ≤ (ps_a s 1153 (Int32.toNatClampNeg x1)).toInt := hB.1
    refine ps_nd_i (show pm_in x1 40 = true from xgi (show 0 ≤ x1.toInt from by omega) (show x1.toInt < 40 from by omega)) ?_
    refine And.intro (fun h12_k => ?_) (fun h12_k => ?_)
    · have f13_k : (ps_a s 1152 (Int32.toNatClampNeg x1)).toInt ≠ (2 : Int) := xne h12_k
      refine ps_nd_i (show pm_in x1 40 = true from xgi (show 0 ≤ x1.toInt from by omega) (show x1.toInt < 40 from by omega)) ?_
      refine ms_234 J2  (fun v14 p14_0 => ?_)
      have p14_0' : (((ps_a s 1152 (Int32.toNatClampNeg x1)).toInt = 0 ∨ (ps_a s 1152 (Int32.toNatClampNeg x1)).toInt = 1 ∨ (ps_a s 1152 (Int32.toNatClampNeg x1)).toInt = 15) ∧ v14.toInt = 0) ∨ (((ps_a s 1152 (Int32.toNatClampNeg x1)).toInt = 3 ∨ (ps_a s 1152 (Int32.toNatClampNeg x1)).toInt = 9 ∨ (ps_a s 1152 (Int32.toNatClampNeg x1)).toInt = 14 ∨ (ps_a s 1152 (Int32.toNatClampNeg x1)).toInt = 16) ∧ v14.toInt = 2) ∨ ((ps_a s 1152 (Int32.toNatClampNeg x1)).toInt = 8 ∧ v14.toInt = 3) ∨ (v14.toInt = 1 ∧ (ps_a s 1152 (Int32.toNatClampNeg x1)).toInt ≠ 0 ∧ (ps_a s 1152 (Int32.toNatClampNeg x1)).toInt ≠ 1 ∧ (ps_a s 1152 (Int32.toNatClampNeg x1)).toInt ≠ 15 ∧ (ps_a s 1152 (Int32.toNatClampNeg x1)).toInt ≠ 3 ∧ (ps_a s 1152 (Int32.toNatClampNeg x1)).toInt ≠ 9 ∧ (ps_a s 1152 (Int32.toNatClampNeg x1)).toInt ≠ 14 ∧ (ps_a s 1152 (Int32.toNatClampNeg x1)).toInt ≠ 16 ∧ (ps_a s 1152 (Int32.toNatClampNeg x1)).toInt ≠ 8) := p14_0
      refine And.intro (fun h15_k => ?_) (fun h15_k => ?_)
      · have f16_k : v14.toInt ≤ (0 : Int) := xle h15_k
        exact ms_252_146 (x1 := x1) (σ := σ) k  v14 _ J2 K3 hS hC hA hO hM (show 0 ≤ x1.toInt from by omega) (show x1.toInt < 40 from by omega) (show (ps_i s 1131 51).toInt = 0 from by omega) (show ((ps_a s 1152 (Int32.toNatClampNeg x1)).toInt = 2 ∧ v14.toInt = 0) ∨ ((((ps_a s 1152 (Int32.toNatClampNeg x1)).toInt = 0 ∨ (ps_a s 1152 (Int32.toNatClampNeg x1)).toInt = 1 ∨ (ps_a s 1152 (Int32.toNatClampNeg x1)).toInt = 15) ∧ v14.toInt = 0) ∨ (((ps_a s 1152 (Int32.toNatClampNeg x1)).toInt = 3 ∨ (ps_a s 1152 (Int32.toNatClampNeg x1)).toInt = 9 ∨ (ps_a s 1152 (Int32.toNatClampNeg x1)).toInt = 14 ∨ (ps_a s 1152 (Int32.toNatClampNeg x1)).toInt = 16) ∧ v14.toInt = 2) ∨ ((ps_a s 1152 (Int32.toNatClampNeg x1)).toInt = 8 ∧ v14.toInt = 3) ∨ (v14.toInt = 1 ∧ (ps_a s 1152 (Int32.toNatClampNeg x1)).toInt ≠ 0 ∧ (ps_a s 1152 (Int32.toNatClampNeg x1)).toInt ≠ 1 ∧ (ps_a s 1152 (Int32.toNatClampNeg x1)).toInt ≠ 15 ∧ (ps_a s 1152 (Int32.toNatClampNeg x1)).toInt ≠ 3 ∧ (ps_a s 1152 (Int32.toNatClampNeg x1)).toInt ≠ 9 ∧ (ps_a s 1152 (Int32.toNatClampNeg x1)).toInt ≠ 14 ∧ (ps_a s 1152 (Int32.toNatClampNeg x1)).toInt ≠ 16 ∧ (ps_a s 1152 (Int32.toNatClampNeg x1)).toInt ≠ 8)) from by omega)
      · have f17_k : (0 : Int) < v14.toInt := xlt h15_k
        refine ps_nd_i (show pm_in x1 40 = true from xgi (show 0 ≤ x1.toInt from by omega) (show x1.toInt < 40 from by omega)) ?_
        refine ms_251 J2 (show 0 ≤ x1.toInt from by omega) (show x1.toInt < 40 from by omega) (show 0 ≤ (ps_a s 1153 (Int32.toNatClampNeg x1)).toInt from by omega) (show (ps_a s 1153 (Int32.toNatClampNeg x1)).toInt < 40 from by omega) (fun s18 J18 K18 => ?_)
        have K19 := kpt K3 K18 rfl rfl
        have KC := K18
        have hS : Sg (ps_a s18 1135) (ps_a s18 1136) (ps_a s18 1138) (ps_a s18 1139) (ps_i s18 1131 21).toInt σ := by rw [show ps_a s18 1135 = ps_a (ps_ub s 1160 (Int32.toNatClampNeg x1) ((1 : Int64) <<< (Int32.toInt64 x1 &&& 63))) 1135 from (K18.2 1135 rfl).1, show ps_a s18 1136 = ps_a (ps_ub s 1160 (Int32.toNatClampNeg x1) ((1 : Int64) <<< (Int32.toInt64 x1 &&& 63))) 1136 from (K18.2 1136 rfl).1, show ps_a s18 1138 = ps_a (ps_ub s 1160 (Int32.toNatClampNeg x1) ((1 : Int64) <<< (Int32.toInt64 x1 &&& 63))) 1138 from (K18.2 1138 rfl).1, show ps_a s18 1139 = ps_a (ps_ub s 1160 (Int32.toNatClampNeg x1) ((1 : Int64) <<< (Int32.toInt64 x1 &&& 63))) 1139 from (K18.2 1139 rfl).1, show ps_i s18 1131 21 = ps_i (ps_ub s 1160 (Int32.toNatClampNeg x1) ((1 : Int64) <<< (Int32.toInt64 x1 &&& 63))) 1131 21 from kp_i K18 21 rfl]; exact hS
        have hP : PSt σ (ps_a s18 1134) (ps_a s18 1157) x1.toInt := by rw [show ps_a s18 1134 = ps_a (ps_ub s 1160 (Int32.toNatClampNeg x1) ((1 : Int64) <<< (Int32.toInt64 x1 &&& 63))) 1134 from (K18.2 1134 rfl).1, show ps_a s18 1157 = ps_a (ps_ub s 1160 (Int32.toNatClampNeg x1) ((1 : Int64) <<< (Int32.toInt64 x1 &&& 63))) 1157 from (K18.2 1157 rfl).1]; exact hP
        have hB : SB σ (ps_a s18 1134) (ps_a s18 1152) (ps_a s18 1153) (ps_i s18 1131 21).toInt (ps_i s18 1131 54).toInt x1.toInt := by rw [show ps_a s18 1134 = ps_a (ps_ub s 1160 (Int32.toNatClampNeg x1) ((1 : Int64) <<< (Int32.toInt64 x1 &&& 63))) 1134 from (K18.2 1134 rfl).1, show ps_a s18 1152 = ps_a (ps_ub s 1160 (Int32.toNatClampNeg x1) ((1 : Int64) <<< (Int32.toInt64 x1 &&& 63))) 1152 from (K18.2 1152 rfl).1, show ps_a s18 1153 = ps_a (ps_ub s 1160 (Int32.toNatClampNeg x1) ((1 : Int64) <<< (Int32.toInt64 x1 &&& 63))) 1153 from (K18.2 1153 rfl).1, show ps_i s18 1131 21 = ps_i (ps_ub s 1160 (Int32.toNatClampNeg x1) ((1 : Int64) <<< (Int32.toInt64 x1 &&& 63))) 1131 21 from kp_i K18 21 rfl, show ps_i s18 1131 54 = ps_i (ps_ub s 1160 (Int32.toNatClampNeg x1) ((1 : Int64) <<< (Int32.toInt64 x1 &&& 63))) 1131 54 from kp_i K18 54 rfl]; exact hB
        have hA : As σ (ps_a s18 1134) x1.toInt (ps_i s18 1131 51).toInt := by rw [show ps_a s18 1134 = ps_a (ps_ub s 1160 (Int32.toNatClampNeg x1) ((1 : Int64) <<< (Int32.toInt64 x1 &&& 63))) 1134 from (K18.2 1134 rfl).1, show ps_i s18 1131 51 = ps_i (ps_ub s 1160 (Int32.toNatClampNeg x1) ((1 : Int64) <<< (Int32.toInt64 x1 &&& 63))) 1131 51 from kp_i K18 51 rfl]; exact hA
        have hO : OutB (ps_a s0 1134) (ps_a s18 1134) x1.toInt := by rw [show ps_a s18 1134 = ps_a (ps_ub s 1160 (Int32.toNatClampNeg x1) ((1 : Int64) <<< (Int32.toInt64 x1 &&& 63))) 1134 from (K18.2 1134 rfl).1]; exact hO
        have hM : Md (ps_a s18 1149) (ps_i s18 1131 34).toInt ([] : List Nat) := by rw [show ps_a s18 1149 = ps_a (ps_ub s 1160 (Int32.toNatClampNeg x1) ((1 : Int64) <<< (Int32.toInt64 x1 &&& 63))) 1149 from (K18.2 1149 rfl).1, show ps_i s18 1131 34 = ps_i (ps_ub s 1160 (Int32.toNatClampNeg x1) ((1 : Int64) <<< (Int32.toInt64 x1 &&& 63))) 1131 34 from kp_i K18 34 rfl]; exact hM
        have hC : SC σ (ps_a s18 1134) (ps_a s18 1157) (ps_a s18 1152) (ps_a s18 1153) (ps_a s18 1154) (ps_a s18 1155) (ps_i s18 1131 21).toInt x1.toInt := by rw [show ps_a s18 1134 = ps_a (ps_ub s 1160 (Int32.toNatClampNeg x1) ((1 : Int64) <<< (Int32.toInt64 x1 &&& 63))) 1134 from (K18.2 1134 rfl).1, show ps_a s18 1157 = ps_a (ps_ub s 1160 (Int32.toNatClampNeg x1) ((1 : Int64) <<< (Int32.toInt64 x1 &&& 63))) 1157 from (K18.2 1157 rfl).1, show ps_a s18 1152 = ps_a (ps_ub s 1160 (Int32.toNatClampNeg x1) ((1 : Int64) <<< (Int32.toInt64 x1 &&& 63))) 1152 from (K18.2 1152 rfl).1, show ps_a s18 1153 = ps_a (ps_ub s 1160 (Int32.toNatClampNeg x1) ((1 : Int64) <<< (Int32.toInt64 x1 &&& 63))) 1153 from (K18.2 1153 rfl).1, show ps_a s18 1154 = ps_a (ps_ub s 1160 (Int32.toNatClampNeg x1) ((1 : Int64) <<< (Int32.toInt64 x1 &&& 63))) 1154 from (K18.2 1154 rfl).1, show ps_a s18 1155 = ps_a (ps_ub s 1160 (Int32.toNatClampNeg x1) ((1 : Int64) <<< (Int32.toInt64 x1 &&& 63))) 1155 from (K18.2 1155 rfl).1, show ps_i s18 1131 21 = ps_i (ps_ub s 1160 (Int32.toNatClampNeg x1) ((1 : Int64) <<< (Int32.toInt64 x1 &&& 63))) 1131 21 from kp_i K18 21 rfl]; exact hC
        have r20_k := mf_51 J18
        have u21 : (ps_i s18 1131 51).toInt = (ps_i s 1131 51).toInt := xeq (kp_i K18 51 rfl)
        have r22_k : 0 ≤ (ps_a s18 1152 (Int32.toNatClampNeg x1)).toInt ∧ (ps_a s18 1152 (Int32.toNatClampNeg x1)).toInt ≤ 18 := ma_1152 (i := x1) J18 (show 0 ≤ x1.toInt from by omega) (show x1.toInt < 40 from by omega)
        have u23 : (ps_a s18 1152 (Int32.toNatClampNeg x1)).toInt = (ps_a s 1152 (Int32.toNatClampNeg x1)).toInt := xeq (kp_a K18 1152 rfl _)
        exact ms_252_146 (x1 := x1) (σ := σ) k  v14 _ J18 K19 hS hC hA hO hM (show 0 ≤ x1.toInt from by omega) (show x1.toInt < 40 from by omega) (show (ps_i s18 1131 51).toInt = 0 from by omega) (show ((ps_a s18 1152 (Int32.toNatClampNeg x1)).toInt = 2 ∧ v14.toInt = 0) ∨ ((((ps_a s18 1152 (Int32.toNatClampNeg x1)).toInt = 0 ∨ (ps_a s18 1152 (Int32.toNatClampNeg x1)).toInt = 1 ∨ (ps_a s18 1152 (Int32.toNatClampNeg x1)).toInt = 15) ∧ v14.toInt = 0) ∨ (((ps_a s18 1152 (Int32.toNatClampNeg x1)).toInt = 3 ∨ (ps_a s18 1152 (Int32.toNatClampNeg x1)).toInt = 9 ∨ (ps_a s18 1152 (Int32.toNatClampNeg x1)).toInt = 14 ∨ (ps_a s18 1152 (Int32.toNatClampNeg x1)).toInt = 16) ∧ v14.toInt = 2) ∨ ((ps_a s18 1152 (Int32.toNatClampNeg x1)).toInt = 8 ∧ v14.toInt = 3) ∨ (v14.toInt = 1 ∧ (ps_a s18 1152 (Int32.toNatClampNeg x1)).toInt ≠ 0 ∧ (ps_a s18 1152 (Int32.toNatClampNeg x1)).toInt ≠ 1 ∧ (ps_a s18 1152 (Int32.toNatClampNeg x1)).toInt ≠ 15 ∧ (ps_a s18 1152 (Int32.toNatClampNeg x1)).toInt ≠ 3 ∧ (ps_a s18 1152 (Int32.toNatClampNeg x1)).toInt ≠ 9 ∧ (ps_a s18 1152 (Int32.toNatClampNeg x1)).toInt ≠ 14 ∧ (ps_a s18 1152 (Int32.toNatClampNeg x1)).toInt ≠ 16 ∧ (ps_a s18 1152 (Int32.toNatClampNeg x1)).toInt ≠ 8)) from by omega)
    · have f24_k : (ps_a s 1152 (Int32.toNatClampNeg x1)).toInt = (2 : Int) := xeq h12_k
      refine And.intro (fun h25_k => ?_) (fun h25_k => ?_)
      · exact ms_252_146 (x1 := x1) (σ := σ) k  (0) _ J2 K3 hS hC hA hO hM (show 0 ≤ x1.toInt from by omega) (show x1.toInt < 40 from by omega) (show (ps_i s 1131 51).toInt = 0 from by omega) (show ((ps_a s 1152 (Int32.toNatClampNeg x1)).toInt = 2 ∧ (0 : Int) = 0) ∨ ((((ps_a s 1152 (Int32.toNatClampNeg x1)).toInt = 0 ∨ (ps_a s 1152 (Int32.toNatClampNeg x1)).toInt = 1 ∨ (ps_a s 1152 (Int32.toNatClampNeg x1)).toInt = 15) ∧ (0 : Int) = 0) ∨ (((ps_a s 1152 (Int32.toNatClampNeg x1)).toInt = 3 ∨ (ps_a s 1152 (Int32.toNatClampNeg x1)).toInt = 9 ∨ (ps_a s 1152 (Int32.toNatClampNeg x1)).toInt = 14 ∨ (ps_a s 1152 (Int32.toNatClampNeg x1)).toInt = 16) ∧ (0 : Int) = 2) ∨ ((ps_a s 1152 (Int32.toNatClampNeg x1)).toInt = 8 ∧ (0 : Int) = 3) ∨ ((0 : Int) = 1 ∧ (ps_a s 1152 (Int32.toNatClampNeg x1)).toInt ≠ 0 ∧ (ps_a s 1152 (Int32.toNatClampNeg x1)).toInt ≠ 1 ∧ (ps_a s 1152 (Int32.toNatClampNeg x1)).toInt ≠ 15 ∧ (ps_a s 1152 (Int32.toNatClampNeg x1)).toInt ≠ 3 ∧ (ps_a s 1152 (Int32.toNatClampNeg x1)).toInt ≠ 9 ∧ (ps_a s 1152 (Int32.toNatClampNeg x1)).toInt ≠ 14 ∧ (ps_a s 1152 (Int32.toNatClampNeg x1)).toInt ≠ 16 ∧ (ps_a s 1152 (Int32.toNatClampNeg x1)).toInt ≠ 8)) from by omega)
      · exact absurd (show (0 : Int32) < (0 : Int32) from h25_k) (by decide)
  · have f26_k : v4.toInt = (0 : Int) := xeq h10_k
    refine ms_241 J2 (show 1 ≤ (1 : Int) from by omega) (show (1 : Int) ≤ 5 from by omega) (fun s27 J27 K27 p27_0 => ?_)
    have K28 := kpt K3 K27 rfl rfl
    have KC := K27
    have hS : Sg (ps_a s27 1135) (ps_a s27 1136) (ps_a s27 1138) (ps_a s27 1139) (ps_i s27 1131 21).toInt σ := by rw [show ps_a s27 1135 = ps_a (ps_ub s 1160 (Int32.toNatClampNeg x1) ((1 : Int64) <<< (Int32.toInt64 x1 &&& 63))) 1135 from (K27.2 1135 rfl).1, show ps_a s27 1136 = ps_a (ps_ub s 1160 (Int32.toNatClampNeg x1) ((1 : Int64) <<< (Int32.toInt64 x1 &&& 63))) 1136 from (K27.2 1136 rfl).1, show ps_a s27 1138 = ps_a (ps_ub s 1160 (Int32.toNatClampNeg x1) ((1 : Int64) <<< (Int32.toInt64 x1 &&& 63))) 1138 from (K27.2 1138 rfl).1, show ps_a s27 1139 = ps_a (ps_ub s 1160 (Int32.toNatClampNeg x1) ((1 : Int64) <<< (Int32.toInt64 x1 &&& 63))) 1139 from (K27.2 1139 rfl).1, show ps_i s27 1131 21 = ps_i (ps_ub s 1160 (Int32.toNatClampNeg x1) ((1 : Int64) <<< (Int32.toInt64 x1 &&& 63))) 1131 21 from kp_i K27 21 rfl]; exact hS
    have hP : PSt σ (ps_a s27 1134) (ps_a s27 1157) x1.toInt := by rw [show ps_a s27 1134 = ps_a (ps_ub s 1160 (Int32.toNatClampNeg x1) ((1 : Int64) <<< (Int32.toInt64 x1 &&& 63))) 1134 from (K27.2 1134 rfl).1, show ps_a s27 1157 = ps_a (ps_ub s 1160 (Int32.toNatClampNeg x1) ((1 : Int64) <<< (Int32.toInt64 x1 &&& 63))) 1157 from (K27.2 1157 rfl).1]; exact hP
    have hB : SB σ (ps_a s27 1134) (ps_a s27 1152) (ps_a s27 1153) (ps_i s27 1131 21).toInt (ps_i s27 1131 54).toInt x1.toInt := by rw [show ps_a s27 1134 = ps_a (ps_ub s 1160 (Int32.toNatClampNeg x1) ((1 : Int64) <<< (Int32.toInt64 x1 &&& 63))) 1134 from (K27.2 1134 rfl).1, show ps_a s27 1152 = ps_a (ps_ub s 1160 (Int32.toNatClampNeg x1) ((1 : Int64) <<< (Int32.toInt64 x1 &&& 63))) 1152 from (K27.2 1152 rfl).1, show ps_a s27 1153 = ps_a (ps_ub s 1160 (Int32.toNatClampNeg x1) ((1 : Int64) <<< (Int32.toInt64 x1 &&& 63))) 1153 from (K27.2 1153 rfl).1, show ps_i s27 1131 21 = ps_i (ps_ub s 1160 (Int32.toNatClampNeg x1) ((1 : Int64) <<< (Int32.toInt64 x1 &&& 63))) 1131 21 from kp_i K27 21 rfl, show ps_i s27 1131 54 = ps_i (ps_ub s 1160 (Int32.toNatClampNeg x1) ((1 : Int64) <<< (Int32.toInt64 x1 &&& 63))) 1131 54 from kp_i K27 54 rfl]; exact hB
    have hA : As σ (ps_a s27 1134) x1.toInt (ps_i s27 1131 51).toInt := by rw [show ps_a s27 1134 = ps_a (ps_ub s 1160 (Int32.toNatClampNeg x1) ((1 : Int64) <<< (Int32.toInt64 x1 &&& 63))) 1134 from (K27.2 1134 rfl).1, show ps_i s27 1131 51 = ps_i (ps_ub s 1160 (Int32.toNatClampNeg x1) ((1 : Int64) <<< (Int32.toInt64 x1 &&& 63))) 1131 51 from kp_i K27 51 rfl]; exact hA
    have hO : OutB (ps_a s0 1134) (ps_a s27 1134) x1.toInt := by rw [show ps_a s27 1134 = ps_a (ps_ub s 1160 (Int32.toNatClampNeg x1) ((1 : Int64) <<< (Int32.toInt64 x1 &&& 63))) 1134 from (K27.2 1134 rfl).1]; exact hO
    have hM : Md (ps_a s27 1149) (ps_i s27 1131 34).toInt ([] : List Nat) := by rw [show ps_a s27 1149 = ps_a (ps_ub s 1160 (Int32.toNatClampNeg x1) ((1 : Int64) <<< (Int32.toInt64 x1 &&& 63))) 1149 from (K27.2 1149 rfl).1, show ps_i s27 1131 34 = ps_i (ps_ub s 1160 (Int32.toNatClampNeg x1) ((1 : Int64) <<< (Int32.toInt64 x1 &&& 63))) 1131 34 from kp_i K27 34 rfl]; exact hM
    have p27_0' : 1 ≤ (ps_i s27 1131 50).toInt := p27_0
    have r29_k := mf_50 J27
    exact k _ J27 K28 hP (fun z_k => absurd z_k (show ¬ ((ps_i s27 1131 50).toInt ≤ 0) from by omega)) (fun k hk_k => hO k (by omega))

theorem ms_252 {x : Nat → Nat → Nat} {t : Int32} {s : ps_S} {d : Nat} {x1 : Int32} {f : ps_S → Prop} (J : mJ x t s) {σ : mSig} (hS : Sg (ps_a s 1135) (ps_a s 1136) (ps_a s 1138) (ps_a s 1139) (ps_i s 1131 21).toInt σ) (hP : PSt σ (ps_a s 1134) (ps_a s 1157) x1.toInt) (hB : SB σ (ps_a s 1134) (ps_a s 1152) (ps_a s 1153) (ps_i s 1131 21).toInt (ps_i s 1131 54).toInt x1.toInt) (q3_k : 0 ≤ x1.toInt) (q4_k : x1.toInt < 40) (k : ∀ (s' : ps_S), mJ x t s' → kp [1134, 1149, 1150, 1151, 1157, 1158, 1159, 1160] [34, 50, 51] s s' → (PSt σ (ps_a s' 1134) (ps_a s' 1157) x1.toInt) → ((ps_i s' 1131 50).toInt ≤ 0 → PSt σ (ps_a s' 1134) (ps_a s' 1157) (x1.toInt + 1)) → (∀ k : Nat, 21320 ≤ k → ps_a s' 1134 k = ps_a s 1134 k) → f s') : ps_Cl (d + 6) 252 [.ref 1131, .int x1] s (ps_rV f) := by
  have K : kp [1134, 1149, 1150, 1151, 1157, 1158, 1159, 1160] [34, 50, 51] s s := kp_refl
  refine pg_252_0 (d := d + 5) ?_
  have hO : OutB (ps_a s 1134) (ps_a s 1134) x1.toInt := OutB_refl
  have J1 := mwi_50 (v := (0 : Int32)) J (show 0 ≤ (0 : Int) from by omega) (show (0 : Int) ≤ 5 from by omega)
  have K2 := kpi K (q := 50) (v := (0 : Int32)) rfl
  have J3 := mwi_51 (v := (0 : Int32)) J1 (show 0 ≤ (0 : Int) from by omega) (show (0 : Int) ≤ 1000 from by omega)
  have K4 := kpi K2 (q := 51) (v := (0 : Int32)) rfl
  have J5 := mwi_34 (v := (0 : Int32)) J3 (show 0 ≤ (0 : Int) from by omega) (show (0 : Int) ≤ 100000 from by omega)
  have K6 := kpi K4 (q := 34) (v := (0 : Int32)) rfl
  have hA : As σ (ps_a (ps_ui (ps_ui (ps_ui s 1131 50 0) 1131 51 0) 1131 34 0) 1134) x1.toInt (ps_i (ps_ui (ps_ui (ps_ui s 1131 50 0) 1131 51 0) 1131 34 0) 1131 51).toInt := As_0
  have hM : Md (ps_a (ps_ui (ps_ui (ps_ui s 1131 50 0) 1131 51 0) 1131 34 0) 1149) (ps_i (ps_ui (ps_ui (ps_ui s 1131 50 0) 1131 51 0) 1131 34 0) 1131 34).toInt ([] : List Nat) := Md_nil rfl
  refine ps_nd_i (show pm_in x1 40 = true from xgi (show 0 ≤ x1.toInt from by omega) (show x1.toInt < 40 from by omega)) ?_
  have r7_k : 0 ≤ (ps_a s 1152 (Int32.toNatClampNeg x1)).toInt ∧ (ps_a s 1152 (Int32.toNatClampNeg x1)).toInt ≤ 18 := ma_1152 (i := x1) J (show 0 ≤ x1.toInt from by omega) (show x1.toInt < 40 from by omega)
  refine And.intro (fun h8_k => ?_) (fun h8_k => ?_)
  · have f9_k : (ps_a s 1152 (Int32.toNatClampNeg x1)).toInt ≠ (1 : Int) := xne h8_k
    refine ps_nd_i (show pm_in x1 40 = true from xgi (show 0 ≤ x1.toInt from by omega) (show x1.toInt < 40 from by omega)) ?_
    have J10 := mwa_n 1158 (i := (Int32.toNatClampNeg x1)) (v := (0 : Int32)) J5 rfl (by decide)
    have K11 := kpa' K6 (r := 1158) (i := (Int32.toNatClampNeg x1)) (v := (0 : Int32)) rfl
    refine ps_nd_i (show pm_in x1 40 = true from xgi (show 0 ≤ x1.toInt from by omega) (show x1.toInt < 40 from by omega)) ?_
    refine And.intro (fun h12_k => ?_) (fun h12_k => ?_)
    · have f13_k : (ps_a s 1152 (Int32.toNatClampNeg x1)).toInt ≠ (2 : Int) := xne h12_k
      refine ps_nd_i (show pm_in x1 40 = true from xgi (show 0 ≤ x1.toInt from by omega) (show x1.toInt < 40 from by omega)) ?_
      have J14 := mwa_n 1159 (i := (Int32.toNatClampNeg x1)) (v := (0 : Int32)) J10 rfl (by decide)
      have K15 := kpa' K11 (r := 1159) (i := (Int32.toNatClampNeg x1)) (v := (0 : Int32)) rfl
      exact ms_252_84 (x1 := x1) (σ := σ) k   _ J14 K15 hS hP hB hA hO hM (show 0 ≤ x1.toInt from by omega) (show x1.toInt < 40 from by omega) (show (0 : Int) = 0 from by omega)
    · have f16_k : (ps_a s 1152 (Int32.toNatClampNeg x1)).toInt = (2 : Int) := xeq h12_k
      refine ps_nd_i (show pm_in x1 40 = true from xgi (show 0 ≤ x1.toInt from by omega) (show x1.toInt < 40 from by omega)) ?_
      have r17_k : -1 ≤ (ps_a s 1153 (Int32.toNatClampNeg x1)).toInt ∧ (ps_a s 1153 (Int32.toNatClampNeg x1)).toInt ≤ 9999 := ma_1153 (i := x1) J (show 0 ≤ x1.toInt from by omega) (show x1.toInt < 40 from by omega)
      have r18_k := mf_54 J
      refine And.intro (fun h19_k => ?_) (fun h19_k => ?_)
      · have f20_k : (ps_i s 1131 54).toInt ≤ (ps_a s 1153 (Int32.toNatClampNeg x1)).toInt := xle h19_k
        refine ps_nd_i (show pm_in x1 40 = true from xgi (show 0 ≤ x1.toInt from by omega) (show x1.toInt < 40 from by omega)) ?_
        have J21 := mwa_n 1159 (i := (Int32.toNatClampNeg x1)) (v := (0 : Int32)) J10 rfl (by decide)
        have K22 := kpa' K11 (r := 1159) (i := (Int32.toNatClampNeg x1)) (v := (0 : Int32)) rfl
        exact ms_252_84 (x1 := x1) (σ := σ) k   _ J21 K22 hS hP hB hA hO hM (show 0 ≤ x1.toInt from by omega) (show x1.toInt < 40 from by omega) (show (0 : Int) = 0 from by omega)
      · have f23_k : (ps_a s 1153 (Int32.toNatClampNeg x1)).toInt < (ps_i s 1131 54).toInt := xlt h19_k
        refine ps_nd_i (show pm_in x1 40 = true from xgi (show 0 ≤ x1.toInt from by omega) (show x1.toInt < 40 from by omega)) ?_
        refine ps_nd_i (show pm_in x1 40 = true from xgi (show 0 ≤ x1.toInt from by omega) (show x1.toInt < 40 from by omega)) ?_
        have J24 := mwa_n 1159 (i := (Int32.toNatClampNeg x1)) (v := ((1 : Int32) <<< ((ps_a s 1153 (Int32.toNatClampNeg x1)) &&& 31))) J10 rfl (by decide)
        have K25 := kpa' K11 (r := 1159) (i := (Int32.toNatClampNeg x1)) (v := ((1 : Int32) <<< ((ps_a s 1153 (Int32.toNatClampNeg x1)) &&& 31))) rfl
        exact ms_252_84 (x1 := x1) (σ := σ) k   _ J24 K25 hS hP hB hA hO hM (show 0 ≤ x1.toInt from by omega) (show x1.toInt < 40 from by omega) (show (0 : Int) = 0 from by omega)
  · have f26_k : (ps_a s 1152 (Int32.toNatClampNeg x1)).toInt = (1 : Int) := xeq h8_k
    refine ps_nd_i (show pm_in x1 40 = true from xgi (show 0 ≤ x1.toInt from by omega) (show x1.toInt < 40 from by omega)) ?_
    have r27_k : -1 ≤ (ps_a s 1153 (Int32.toNatClampNeg x1)).toInt ∧ (ps_a s 1153 (Int32.toNatClampNeg x1)).toInt ≤ 9999 := ma_1153 (i := x1) J (show 0 ≤ x1.toInt from by omega) (show x1.toInt < 40 from by omega)
    refine ps_nd_i (show pm_in x1 40 = true from xgi (show 0 ≤ x1.toInt from by omega) (show x1.toInt < 40 from by omega)) ?_
    have J28 := mwa_n 1158 (i := (Int32.toNatClampNeg x1)) (v := ((1 : Int32) <<< ((ps_a s 1153 (Int32.toNatClampNeg x1)) &&& 31))) J5 rfl (by decide)
    have K29 := kpa' K6 (r := 1158) (i := (Int32.toNatClampNeg x1)) (v := ((1 : Int32) <<< ((ps_a s 1153 (Int32.toNatClampNeg x1)) &&& 31))) rfl
    refine ps_nd_i (show pm_in x1 40 = true from xgi (show 0 ≤ x1.toInt from by omega) (show x1.toInt < 40 from by omega)) ?_
    refine And.intro (fun h30_k => ?_) (fun h30_k => ?_)
    · have f31_k : (ps_a s 1152 (Int32.toNatClampNeg x1)).toInt ≠ (2 : Int) := xne h30_k
      refine ps_nd_i (show pm_in x1 40 = true from xgi (show 0 ≤ x1.toInt from by omega) (show x1.toInt < 40 from by omega)) ?_
      have J32 := mwa_n 1159 (i := (Int32.toNatClampNeg x1)) (v := (0 : Int32)) J28 rfl (by decide)
      have K33 := kpa' K29 (r := 1159) (i := (Int32.toNatClampNeg x1)) (v := (0 : Int32)) rfl
      exact ms_252_84 (x1 := x1) (σ := σ) k   _ J32 K33 hS hP hB hA hO hM (show 0 ≤ x1.toInt from by omega) (show x1.toInt < 40 from by omega) (show (0 : Int) = 0 from by omega)
    · have f34_k : (ps_a s 1152 (Int32.toNatClampNeg x1)).toInt = (2 : Int) := xeq h30_k
      refine ps_nd_i (show pm_in x1 40 = true from xgi (show 0 ≤ x1.toInt from by omega) (show x1.toInt < 40 from by omega)) ?_
      have r35_k := mf_54 J
      refine And.intro (fun h36_k => ?_) (fun h36_k => ?_)
      · have f37_k : (ps_i s 1131 54).toInt ≤ (ps_a s 1153 (Int32.toNatClampNeg x1)).toInt := xle h36_k
        refine ps_nd_i (show pm_in x1 40 = true from xgi (show 0 ≤ x1.toInt from by omega) (show x1.toInt < 40 from by omega)) ?_
        have J38 := mwa_n 1159 (i := (Int32.toNatClampNeg x1)) (v := (0 : Int32)) J28 rfl (by decide)
        have K39 := kpa' K29 (r := 1159) (i := (Int32.toNatClampNeg x1)) (v := (0 : Int32)) rfl
        exact ms_252_84 (x1 := x1) (σ := σ) k   _ J38 K39 hS hP hB hA hO hM (show 0 ≤ x1.toInt from by omega) (show x1.toInt < 40 from by omega) (show (0 : Int) = 0 from by omega)
      · have f40_k : (ps_a s 1153 (Int32.toNatClampNeg x1)).toInt < (ps_i s 1131 54).toInt := xlt h36_k
        refine ps_nd_i (show pm_in x1 40 = true from xgi (show 0 ≤ x1.toInt from by omega) (show x1.toInt < 40 from by omega)) ?_
        refine ps_nd_i (show pm_in x1 40 = true from xgi (show 0 ≤ x1.toInt from by omega) (show x1.toInt < 40 from by omega)) ?_
        have J41 := mwa_n 1159 (i := (Int32.toNatClampNeg x1)) (v := ((1 : Int32) <<< ((ps_a s 1153 (Int32.toNatClampNeg x1)) &&& 31))) J28 rfl (by decide)
        have K42 := kpa' K29 (r := 1159) (i := (Int32.toNatClampNeg x1)) (v := ((1 : Int32) <<< ((ps_a s 1153 (Int32.toNatClampNeg x1)) &&& 31))) rfl
        exact ms_252_84 (x1 := x1) (σ := σ) k   _ J41 K42 hS hP hB hA hO hM (show 0 ≤ x1.toInt from by omega) (show x1.toInt < 40 from by omega) (show (0 : Int) = 0 from by omega)
end
