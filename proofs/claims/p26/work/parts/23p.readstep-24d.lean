section
set_option maxRecDepth 100000
-- ProofBenchModel.readStep()V
theorem pg_238_0 {d : Nat} {s : ps_S} {Q : Option Value → ps_S → Prop} (h :
  ps_Cl d 233 [.ref 1131] s (ps_rI (fun v1 s1 =>
    (v1 < 0 →
      ps_At (d + 1) 238 20 [(0, .ref 1131), (1, .int (ps_i s 1131 42)), (2, .int v1)] [] s1 Q) ∧
    (0 ≤ v1 →
      ((ps_i s 1131 42) ≠ 40 →
        ps_At (d + 1) 238 24 [(0, .ref 1131), (1, .int (ps_i s 1131 42)), (2, .int v1)] [] s1 Q) ∧
      ((ps_i s 1131 42) = 40 →
        ps_At (d + 1) 238 20 [(0, .ref 1131), (1, .int (ps_i s 1131 42)), (2, .int v1)] [] s1 Q))))) : ps_At (d + 1) 238 0 [(0, .ref 1131)] [] s Q :=
  ps_wp_at (stops := [(20, [0, 1, 2]), (24, [0, 1, 2]), (53, [0, 1, 2]), (70, [0, 1, 2]), (88, [0, 1, 2]), (106, [0, 1, 2]), (134, [0, 1, 2]), (162, [0, 1, 2]), (181, [0, 1]), (205, [0]), (216, [0])]) (n := 13) h rfl

theorem pg_238_20 {d : Nat} {x1 : Int32} {x2 : Int32} {s : ps_S} {Q : Option Value → ps_S → Prop} (h :
  ps_Cl d 196 [.ref 1131] s (ps_rV (fun s1 =>
    ps_At (d + 1) 238 24 [(0, .ref 1131), (1, .int x1), (2, .int x2)] [] s1 Q))) : ps_At (d + 1) 238 20 [(0, .ref 1131), (1, .int x1), (2, .int x2)] [] s Q :=
  ps_wp_at (stops := [(20, [0, 1, 2]), (24, [0, 1, 2]), (53, [0, 1, 2]), (70, [0, 1, 2]), (88, [0, 1, 2]), (106, [0, 1, 2]), (134, [0, 1, 2]), (162, [0, 1, 2]), (181, [0, 1]), (205, [0]), (216, [0])]) (n := 4) h rfl

theorem pg_238_24 {d : Nat} {x1 : Int32} {x2 : Int32} {s : ps_S} {Q : Option Value → ps_S → Prop} (h :
  ps_Cl d 192 [.ref 1131] s (ps_rI (fun v1 s1 =>
    (v1 ≠ 0 →
      ps_Cl d 194 [.ref 1131] s1 (ps_rV (fun s2 =>
        ps_nd (pm_in x1 40) ((x2 ≠ 1 →
          ps_At (d + 1) 238 53 [(0, .ref 1131), (1, .int x1), (2, .int x2)] [] (ps_ua s2 1152 (Int32.toNatClampNeg x1) x2) Q) ∧
        (x2 = 1 →
          ps_Cl d 239 [.ref 1131, .int x1] (ps_ua s2 1152 (Int32.toNatClampNeg x1) x2) (ps_rV (fun s3 =>
            ps_At (d + 1) 238 53 [(0, .ref 1131), (1, .int x1), (2, .int x2)] [] s3 Q))))))) ∧
    (v1 = 0 →
      Q none s1)))) : ps_At (d + 1) 238 24 [(0, .ref 1131), (1, .int x1), (2, .int x2)] [] s Q :=
  ps_wp_at (stops := [(20, [0, 1, 2]), (24, [0, 1, 2]), (53, [0, 1, 2]), (70, [0, 1, 2]), (88, [0, 1, 2]), (106, [0, 1, 2]), (134, [0, 1, 2]), (162, [0, 1, 2]), (181, [0, 1]), (205, [0]), (216, [0])]) (n := 19) h rfl

theorem pg_238_53 {d : Nat} {x1 : Int32} {x2 : Int32} {s : ps_S} {Q : Option Value → ps_S → Prop} (h :
  ps_Cl d 234 [.int x2] s (ps_rI (fun v1 s1 =>
    (v1 ≤ 0 →
      ps_At (d + 1) 238 70 [(0, .ref 1131), (1, .int x1), (2, .int x2)] [] s1 Q) ∧
    (0 < v1 →
      ps_Cl d 237 [.ref 1131] s1 (ps_rI (fun v2 s2 =>
        ps_nd (pm_in x1 40) (ps_At (d + 1) 238 70 [(0, .ref 1131), (1, .int x1), (2, .int x2)] [] (ps_ua s2 1153 (Int32.toNatClampNeg x1) v2) Q))))))) : ps_At (d + 1) 238 53 [(0, .ref 1131), (1, .int x1), (2, .int x2)] [] s Q :=
  ps_wp_at (stops := [(20, [0, 1, 2]), (24, [0, 1, 2]), (53, [0, 1, 2]), (70, [0, 1, 2]), (88, [0, 1, 2]), (106, [0, 1, 2]), (134, [0, 1, 2]), (162, [0, 1, 2]), (181, [0, 1]), (205, [0]), (216, [0])]) (n := 11) h rfl

theorem pg_238_70 {d : Nat} {x1 : Int32} {x2 : Int32} {s : ps_S} {Q : Option Value → ps_S → Prop} (h :
  ps_Cl d 234 [.int x2] s (ps_rI (fun v1 s1 =>
    (v1 ≤ 1 →
      ps_At (d + 1) 238 88 [(0, .ref 1131), (1, .int x1), (2, .int x2)] [] s1 Q) ∧
    (1 < v1 →
      ps_Cl d 237 [.ref 1131] s1 (ps_rI (fun v2 s2 =>
        ps_nd (pm_in x1 40) (ps_At (d + 1) 238 88 [(0, .ref 1131), (1, .int x1), (2, .int x2)] [] (ps_ua s2 1154 (Int32.toNatClampNeg x1) v2) Q))))))) : ps_At (d + 1) 238 70 [(0, .ref 1131), (1, .int x1), (2, .int x2)] [] s Q :=
  ps_wp_at (stops := [(20, [0, 1, 2]), (24, [0, 1, 2]), (53, [0, 1, 2]), (70, [0, 1, 2]), (88, [0, 1, 2]), (106, [0, 1, 2]), (134, [0, 1, 2]), (162, [0, 1, 2]), (181, [0, 1]), (205, [0]), (216, [0])]) (n := 12) h rfl

theorem pg_238_88 {d : Nat} {x1 : Int32} {x2 : Int32} {s : ps_S} {Q : Option Value → ps_S → Prop} (h :
  ps_Cl d 234 [.int x2] s (ps_rI (fun v1 s1 =>
    (v1 ≤ 2 →
      ps_At (d + 1) 238 106 [(0, .ref 1131), (1, .int x1), (2, .int x2)] [] s1 Q) ∧
    (2 < v1 →
      ps_Cl d 237 [.ref 1131] s1 (ps_rI (fun v2 s2 =>
        ps_nd (pm_in x1 40) (ps_At (d + 1) 238 106 [(0, .ref 1131), (1, .int x1), (2, .int x2)] [] (ps_ua s2 1155 (Int32.toNatClampNeg x1) v2) Q))))))) : ps_At (d + 1) 238 88 [(0, .ref 1131), (1, .int x1), (2, .int x2)] [] s Q :=
  ps_wp_at (stops := [(20, [0, 1, 2]), (24, [0, 1, 2]), (53, [0, 1, 2]), (70, [0, 1, 2]), (88, [0, 1, 2]), (106, [0, 1, 2]), (134, [0, 1, 2]), (162, [0, 1, 2]), (181, [0, 1]), (205, [0]), (216, [0])]) (n := 12) h rfl

theorem pg_238_106 {d : Nat} {x1 : Int32} {x2 : Int32} {s : ps_S} {Q : Option Value → ps_S → Prop} (h :
  ps_Cl d 192 [.ref 1131] s (ps_rI (fun v1 s1 =>
    (v1 = 0 →
      ps_At (d + 1) 238 134 [(0, .ref 1131), (1, .int x1), (2, .int x2)] [] s1 Q) ∧
    (v1 ≠ 0 →
      ps_Cl d 235 [.int x2] s1 (ps_rI (fun v2 s2 =>
        (v2 = 0 →
          ps_At (d + 1) 238 134 [(0, .ref 1131), (1, .int x1), (2, .int x2)] [] s2 Q) ∧
        (v2 ≠ 0 →
          ps_Cl d 209 [.ref 1131, .int ((24108 : Int32) + ((41 : Int32) * x1)), .int 0, .int 0] s2 (ps_rV (fun s3 =>
            ps_At (d + 1) 238 134 [(0, .ref 1131), (1, .int x1), (2, .int x2)] [] s3 Q))))))))) : ps_At (d + 1) 238 106 [(0, .ref 1131), (1, .int x1), (2, .int x2)] [] s Q :=
  ps_wp_at (stops := [(20, [0, 1, 2]), (24, [0, 1, 2]), (53, [0, 1, 2]), (70, [0, 1, 2]), (88, [0, 1, 2]), (106, [0, 1, 2]), (134, [0, 1, 2]), (162, [0, 1, 2]), (181, [0, 1]), (205, [0]), (216, [0])]) (n := 17) h rfl

theorem pg_238_134 {d : Nat} {x1 : Int32} {x2 : Int32} {s : ps_S} {Q : Option Value → ps_S → Prop} (h :
  ps_Cl d 192 [.ref 1131] s (ps_rI (fun v1 s1 =>
    (v1 = 0 →
      ps_At (d + 1) 238 162 [(0, .ref 1131), (1, .int x1), (2, .int x2)] [] s1 Q) ∧
    (v1 ≠ 0 →
      ps_Cl d 236 [.int x2] s1 (ps_rI (fun v2 s2 =>
        (v2 = 0 →
          ps_At (d + 1) 238 162 [(0, .ref 1131), (1, .int x1), (2, .int x2)] [] s2 Q) ∧
        (v2 ≠ 0 →
          ps_Cl d 209 [.ref 1131, .int ((22468 : Int32) + ((41 : Int32) * x1)), .int 1, .int 0] s2 (ps_rV (fun s3 =>
            ps_At (d + 1) 238 162 [(0, .ref 1131), (1, .int x1), (2, .int x2)] [] s3 Q))))))))) : ps_At (d + 1) 238 134 [(0, .ref 1131), (1, .int x1), (2, .int x2)] [] s Q :=
  ps_wp_at (stops := [(20, [0, 1, 2]), (24, [0, 1, 2]), (53, [0, 1, 2]), (70, [0, 1, 2]), (88, [0, 1, 2]), (106, [0, 1, 2]), (134, [0, 1, 2]), (162, [0, 1, 2]), (181, [0, 1]), (205, [0]), (216, [0])]) (n := 17) h rfl

theorem pg_238_162 {d : Nat} {x1 : Int32} {x2 : Int32} {s : ps_S} {Q : Option Value → ps_S → Prop} (h :
  ps_Cl d 192 [.ref 1131] s (ps_rI (fun v1 s1 =>
    (v1 = 0 →
      ps_At (d + 1) 238 216 [(0, .ref 1131)] [] s1 Q) ∧
    (v1 ≠ 0 →
      (x2 = 11 →
        ps_At (d + 1) 238 181 [(0, .ref 1131), (1, .int x1)] [] s1 Q) ∧
      (x2 ≠ 11 →
        (x2 ≠ 14 →
          ps_At (d + 1) 238 216 [(0, .ref 1131)] [] s1 Q) ∧
        (x2 = 14 →
          ps_At (d + 1) 238 181 [(0, .ref 1131), (1, .int x1)] [] s1 Q)))))) : ps_At (d + 1) 238 162 [(0, .ref 1131), (1, .int x1), (2, .int x2)] [] s Q :=
  ps_wp_at (stops := [(20, [0, 1, 2]), (24, [0, 1, 2]), (53, [0, 1, 2]), (70, [0, 1, 2]), (88, [0, 1, 2]), (106, [0, 1, 2]), (134, [0, 1, 2]), (162, [0, 1, 2]), (181, [0, 1]), (205, [0]), (216, [0])]) (n := 11) h rfl

theorem pg_238_181 {d : Nat} {x1 : Int32} {s : ps_S} {Q : Option Value → ps_S → Prop} (h :
  ps_Cl d 208 [.ref 1131] s (ps_rI (fun v1 s1 =>
    (v1 ≠ 0 →
      ps_Cl d 217 [.ref 1131] s1 (ps_rI (fun v2 s2 =>
        ps_nd (pm_in x1 40) (ps_At (d + 1) 238 205 [(0, .ref 1131)] [] (ps_ua s2 1156 (Int32.toNatClampNeg x1) v2) Q)))) ∧
    (v1 = 0 →
      ps_Cl d 196 [.ref 1131] s1 (ps_rV (fun s3 =>
        ps_At (d + 1) 238 205 [(0, .ref 1131)] [] s3 Q)))))) : ps_At (d + 1) 238 181 [(0, .ref 1131), (1, .int x1)] [] s Q :=
  ps_wp_at (stops := [(20, [0, 1, 2]), (24, [0, 1, 2]), (53, [0, 1, 2]), (70, [0, 1, 2]), (88, [0, 1, 2]), (106, [0, 1, 2]), (134, [0, 1, 2]), (162, [0, 1, 2]), (181, [0, 1]), (205, [0]), (216, [0])]) (n := 14) h rfl

theorem pg_238_205 {d : Nat} {s : ps_S} {Q : Option Value → ps_S → Prop} (h :
  ps_Cl d 192 [.ref 1131] s (ps_rI (fun v1 s1 =>
    (v1 = 0 →
      ps_At (d + 1) 238 216 [(0, .ref 1131)] [] s1 Q) ∧
    (v1 ≠ 0 →
      ps_Cl d 194 [.ref 1131] s1 (ps_rV (fun s2 =>
        ps_At (d + 1) 238 216 [(0, .ref 1131)] [] s2 Q)))))) : ps_At (d + 1) 238 205 [(0, .ref 1131)] [] s Q :=
  ps_wp_at (stops := [(20, [0, 1, 2]), (24, [0, 1, 2]), (53, [0, 1, 2]), (70, [0, 1, 2]), (88, [0, 1, 2]), (106, [0, 1, 2]), (134, [0, 1, 2]), (162, [0, 1, 2]), (181, [0, 1]), (205, [0]), (216, [0])]) (n := 7) h rfl

theorem pg_238_216 {d : Nat} {s : ps_S} {Q : Option Value → ps_S → Prop} (h :
  ((ps_i s 1131 9) ≠ 5 →
    ps_Cl d 197 [.ref 1131, .int 0] s (ps_rV (fun s1 =>
      Q none (ps_ui s1 1131 42 ((ps_i s1 1131 42) + 1))))) ∧
  ((ps_i s 1131 9) = 5 →
    ps_Cl d 197 [.ref 1131, .int 1] s (ps_rV (fun s2 =>
      Q none (ps_ui s2 1131 42 ((ps_i s2 1131 42) + 1)))))) : ps_At (d + 1) 238 216 [(0, .ref 1131)] [] s Q :=
  ps_wp_at (stops := [(20, [0, 1, 2]), (24, [0, 1, 2]), (53, [0, 1, 2]), (70, [0, 1, 2]), (88, [0, 1, 2]), (106, [0, 1, 2]), (134, [0, 1, 2]), (162, [0, 1, 2]), (181, [0, 1]), (205, [0]), (216, [0])]) (n := 26) h rfl

theorem ms_238_216 {x : Nat → Nat → Nat} {t : Int32} {d : Nat} {s0 : ps_S} {σ : mSig} {ax n0 : Int} {Q : Option Value → ps_S → Prop} (k : ∀ (s' : ps_S), mJ x t s' → kp [1134, 1143, 1144, 1145, 1146, 1147, 1148, 1152, 1153, 1154, 1155, 1156] [5, 6, 7, 8, 9, 10, 11, 23, 29, 30, 31, 32, 42] s0 s' → ((ps_i s' 1131 8).toInt ≤ (ps_i s' 1131 4).toInt) → (1 ≤ (ps_i s' 1131 5).toInt ∨ SRs σ (ps_a s' 1134) (ps_a s' 1152) (ps_a s' 1153) ax (ps_i s' 1131 42).toInt) → (∀ k : Nat, (k : Int) < 22468 ∨ 25748 ≤ (k : Int) → ps_a s' 1134 k = ps_a s0 1134 k) → (1 ≤ (ps_i s' 1131 5).toInt ∨ (ps_i s' 1131 42).toInt = (ps_i s0 1131 42).toInt + 1) → ((ps_i s0 1131 42).toInt ≤ (ps_i s' 1131 42).toInt) → Q none s') (s : ps_S) (J : mJ x t s) (K : kp [1134, 1143, 1144, 1145, 1146, 1147, 1148, 1152, 1153, 1154, 1155, 1156] [5, 6, 7, 8, 9, 10, 11, 23, 29, 30, 31, 32, 42] s0 s) (hFR : ∀ k : Nat, (k : Int) < 22468 ∨ 25748 ≤ (k : Int) → ps_a s 1134 k = ps_a s0 1134 k) (i1 : (ps_i s 1131 8).toInt ≤ (ps_i s 1131 4).toInt) (i2 : 1 ≤ (ps_i s 1131 5).toInt ∨ SRs σ (ps_a s 1134) (ps_a s 1152) (ps_a s 1153) ax (n0 + 1)) (i3 : (ps_i s 1131 42).toInt = n0) (i4 : (ps_i s 1131 42).toInt = (ps_i s0 1131 42).toInt) (i5 : (ps_i s 1131 42).toInt < 40) (i6 : 0 ≤ (ps_i s 1131 42).toInt) : ps_At (d + 6) 238 216 [(0, .ref 1131)] [] s Q := by
  have r1 := mf_8 J
  have r2 := mf_4 J
  have r3 := mf_42 J
  refine pg_238_216 (d := d + 5) ?_
  have hI : 1 ≤ (ps_i s 1131 5).toInt ∨ SRs σ (ps_a s 1134) (ps_a s 1152) (ps_a s 1153) ax (n0 + 1) := i2
  have r4 := mf_9 J
  refine And.intro (fun h5 => ?_) (fun h5 => ?_)
  · have f6 : (ps_i s 1131 9).toInt ≠ (5 : Int) := xne h5
    refine ms_197 J (show (ps_i s 1131 8).toInt ≤ (ps_i s 1131 4).toInt from by omega) (fun s7 J7 K7 p7_0 p7_1 p7_2 => ?_)
    have K8 := kpt K K7 rfl rfl
    have KC := K7
    have hFR : ∀ k : Nat, (k : Int) < 22468 ∨ 25748 ≤ (k : Int) → ps_a s7 1134 k = ps_a s0 1134 k := by rw [show ps_a s7 1134 = ps_a s 1134 from (K7.2 1134 rfl).1]; exact hFR
    have hI : 1 ≤ (ps_i s 1131 5).toInt ∨ SRs σ (ps_a s7 1134) (ps_a s7 1152) (ps_a s7 1153) ax (n0 + 1) := by rw [show ps_a s7 1134 = ps_a s 1134 from (K7.2 1134 rfl).1, show ps_a s7 1152 = ps_a s 1152 from (K7.2 1152 rfl).1, show ps_a s7 1153 = ps_a s 1153 from (K7.2 1153 rfl).1]; exact hI
    have p7_0' : (ps_i s7 1131 8).toInt ≤ (ps_i s7 1131 4).toInt := p7_0
    have r9 := mf_8 J7
    have r10 := mf_4 J7
    have u11 : (ps_i s7 1131 4).toInt = (ps_i s 1131 4).toInt := xeq (kp_i K7 4 rfl)
    have p7_1' : 1 ≤ (ps_i s 1131 5).toInt → 1 ≤ (ps_i s7 1131 5).toInt := p7_1
    have r12 := mf_5 J7
    have r13 := mf_5 J
    have p7_2' : (0 : Int) = 0 → 1 ≤ (ps_i s7 1131 5).toInt := p7_2
    have r14 := mf_42 J7
    have u15 : (ps_i s7 1131 42).toInt = (ps_i s 1131 42).toInt := xeq (kp_i K7 42 rfl)
    have a16 : ((ps_i s7 1131 42) + 1).toInt = (ps_i s7 1131 42).toInt + (1 : Int) := xIa (show -2147483648 ≤ (ps_i s7 1131 42).toInt + (1 : Int) from by omega) (show (ps_i s7 1131 42).toInt + (1 : Int) < 2147483648 from by omega)
    have J17 := mwi_42 (v := ((ps_i s7 1131 42) + 1)) J7 (show 0 ≤ ((ps_i s7 1131 42) + 1).toInt from by omega) (show ((ps_i s7 1131 42) + 1).toInt ≤ 40 from by omega)
    have K18 := kpi K8 (q := 42) (v := ((ps_i s7 1131 42) + 1)) rfl
    exact k _ J17 K18 (show (ps_i s7 1131 8).toInt ≤ (ps_i s7 1131 4).toInt from by omega) (hI.elim (fun z => Or.inl (show 1 ≤ (ps_i s7 1131 5).toInt from by omega)) (fun z => Or.inr (SRs_n z (show ((ps_i s7 1131 42) + 1).toInt = n0 + 1 from by omega) rfl))) (hFR) (show 1 ≤ (ps_i s7 1131 5).toInt ∨ ((ps_i s7 1131 42) + 1).toInt = (ps_i s0 1131 42).toInt + 1 from by omega) (show (ps_i s0 1131 42).toInt ≤ ((ps_i s7 1131 42) + 1).toInt from by omega)
  · have f19 : (ps_i s 1131 9).toInt = (5 : Int) := xeq h5
    refine ms_197 J (show (ps_i s 1131 8).toInt ≤ (ps_i s 1131 4).toInt from by omega) (fun s20 J20 K20 p20_0 p20_1 p20_2 => ?_)
    have K21 := kpt K K20 rfl rfl
    have KC := K20
    have hFR : ∀ k : Nat, (k : Int) < 22468 ∨ 25748 ≤ (k : Int) → ps_a s20 1134 k = ps_a s0 1134 k := by rw [show ps_a s20 1134 = ps_a s 1134 from (K20.2 1134 rfl).1]; exact hFR
    have hI : 1 ≤ (ps_i s 1131 5).toInt ∨ SRs σ (ps_a s20 1134) (ps_a s20 1152) (ps_a s20 1153) ax (n0 + 1) := by rw [show ps_a s20 1134 = ps_a s 1134 from (K20.2 1134 rfl).1, show ps_a s20 1152 = ps_a s 1152 from (K20.2 1152 rfl).1, show ps_a s20 1153 = ps_a s 1153 from (K20.2 1153 rfl).1]; exact hI
    have p20_0' : (ps_i s20 1131 8).toInt ≤ (ps_i s20 1131 4).toInt := p20_0
    have r22 := mf_8 J20
    have r23 := mf_4 J20
    have u24 : (ps_i s20 1131 4).toInt = (ps_i s 1131 4).toInt := xeq (kp_i K20 4 rfl)
    have p20_1' : 1 ≤ (ps_i s 1131 5).toInt → 1 ≤ (ps_i s20 1131 5).toInt := p20_1
    have r25 := mf_5 J20
    have r26 := mf_5 J
    have p20_2' : (1 : Int) = 0 → 1 ≤ (ps_i s20 1131 5).toInt := p20_2
    have r27 := mf_42 J20
    have u28 : (ps_i s20 1131 42).toInt = (ps_i s 1131 42).toInt := xeq (kp_i K20 42 rfl)
    have a29 : ((ps_i s20 1131 42) + 1).toInt = (ps_i s20 1131 42).toInt + (1 : Int) := xIa (show -2147483648 ≤ (ps_i s20 1131 42).toInt + (1 : Int) from by omega) (show (ps_i s20 1131 42).toInt + (1 : Int) < 2147483648 from by omega)
    have J30 := mwi_42 (v := ((ps_i s20 1131 42) + 1)) J20 (show 0 ≤ ((ps_i s20 1131 42) + 1).toInt from by omega) (show ((ps_i s20 1131 42) + 1).toInt ≤ 40 from by omega)
    have K31 := kpi K21 (q := 42) (v := ((ps_i s20 1131 42) + 1)) rfl
    exact k _ J30 K31 (show (ps_i s20 1131 8).toInt ≤ (ps_i s20 1131 4).toInt from by omega) (hI.elim (fun z => Or.inl (show 1 ≤ (ps_i s20 1131 5).toInt from by omega)) (fun z => Or.inr (SRs_n z (show ((ps_i s20 1131 42) + 1).toInt = n0 + 1 from by omega) rfl))) (hFR) (show 1 ≤ (ps_i s20 1131 5).toInt ∨ ((ps_i s20 1131 42) + 1).toInt = (ps_i s0 1131 42).toInt + 1 from by omega) (show (ps_i s0 1131 42).toInt ≤ ((ps_i s20 1131 42) + 1).toInt from by omega)

theorem ms_238_205 {x : Nat → Nat → Nat} {t : Int32} {d : Nat} {s0 : ps_S} {σ : mSig} {ax n0 : Int} {Q : Option Value → ps_S → Prop} (k : ∀ (s' : ps_S), mJ x t s' → kp [1134, 1143, 1144, 1145, 1146, 1147, 1148, 1152, 1153, 1154, 1155, 1156] [5, 6, 7, 8, 9, 10, 11, 23, 29, 30, 31, 32, 42] s0 s' → ((ps_i s' 1131 8).toInt ≤ (ps_i s' 1131 4).toInt) → (1 ≤ (ps_i s' 1131 5).toInt ∨ SRs σ (ps_a s' 1134) (ps_a s' 1152) (ps_a s' 1153) ax (ps_i s' 1131 42).toInt) → (∀ k : Nat, (k : Int) < 22468 ∨ 25748 ≤ (k : Int) → ps_a s' 1134 k = ps_a s0 1134 k) → (1 ≤ (ps_i s' 1131 5).toInt ∨ (ps_i s' 1131 42).toInt = (ps_i s0 1131 42).toInt + 1) → ((ps_i s0 1131 42).toInt ≤ (ps_i s' 1131 42).toInt) → Q none s') (s : ps_S) (J : mJ x t s) (K : kp [1134, 1143, 1144, 1145, 1146, 1147, 1148, 1152, 1153, 1154, 1155, 1156] [5, 6, 7, 8, 9, 10, 11, 23, 29, 30, 31, 32, 42] s0 s) (hFR : ∀ k : Nat, (k : Int) < 22468 ∨ 25748 ≤ (k : Int) → ps_a s 1134 k = ps_a s0 1134 k) (i1 : (ps_i s 1131 8).toInt ≤ (ps_i s 1131 4).toInt) (i2 : 1 ≤ (ps_i s 1131 5).toInt ∨ SRs σ (ps_a s 1134) (ps_a s 1152) (ps_a s 1153) ax (n0 + 1)) (i3 : (ps_i s 1131 42).toInt = n0) (i4 : (ps_i s 1131 42).toInt = (ps_i s0 1131 42).toInt) (i5 : (ps_i s 1131 42).toInt < 40) (i6 : 0 ≤ (ps_i s 1131 42).toInt) : ps_At (d + 6) 238 205 [(0, .ref 1131)] [] s Q := by
  have r1 := mf_8 J
  have r2 := mf_4 J
  have r3 := mf_42 J
  refine pg_238_205 (d := d + 5) ?_
  have hI2 : 1 ≤ (ps_i s 1131 5).toInt ∨ SRs σ (ps_a s 1134) (ps_a s 1152) (ps_a s 1153) ax (n0 + 1) := i2
  refine ms_192 J  (fun v4 p4_0 b4 => ?_)
  have p4_0' : (v4.toInt = 0 ∧ 1 ≤ (ps_i s 1131 5).toInt) ∨ (v4.toInt = 1 ∧ (ps_i s 1131 5).toInt = 0) := p4_0
  have r5 := mf_5 J
  refine And.intro (fun h6 => ?_) (fun h6 => ?_)
  · have f7 : v4.toInt = (0 : Int) := xeq h6
    have qz7 : 1 ≤ (ps_i s 1131 5).toInt := by omega
    clear p4_0' p4_0
    exact ms_238_216 (σ := σ) (ax := ax) (n0 := n0) k   _ J K hFR (show (ps_i s 1131 8).toInt ≤ (ps_i s 1131 4).toInt from by omega) (i2) (show (ps_i s 1131 42).toInt = n0 from by omega) (show (ps_i s 1131 42).toInt = (ps_i s0 1131 42).toInt from by omega) (show (ps_i s 1131 42).toInt < 40 from by omega) (show 0 ≤ (ps_i s 1131 42).toInt from by omega)
  · have f8 : v4.toInt ≠ (0 : Int) := xne h6
    have qz8 : (ps_i s 1131 5).toInt = 0 := by omega
    clear p4_0' p4_0
    refine ms_194 J (show (ps_i s 1131 8).toInt ≤ (ps_i s 1131 4).toInt from by omega) (fun s9 J9 K9 p9_0 => ?_)
    have K10 := kpt K K9 rfl rfl
    have KC := K9
    have hFR : ∀ k : Nat, (k : Int) < 22468 ∨ 25748 ≤ (k : Int) → ps_a s9 1134 k = ps_a s0 1134 k := by rw [show ps_a s9 1134 = ps_a s 1134 from (K9.2 1134 rfl).1]; exact hFR
    have hI2 : 1 ≤ (ps_i s 1131 5).toInt ∨ SRs σ (ps_a s9 1134) (ps_a s9 1152) (ps_a s9 1153) ax (n0 + 1) := by rw [show ps_a s9 1134 = ps_a s 1134 from (K9.2 1134 rfl).1, show ps_a s9 1152 = ps_a s 1152 from (K9.2 1152 rfl).1, show ps_a s9 1153 = ps_a s 1153 from (K9.2 1153 rfl).1]; exact hI2
    have p9_0' : (ps_i s9 1131 8).toInt ≤ (ps_i s9 1131 4).toInt := p9_0
    have r11 := mf_8 J9
    have r12 := mf_4 J9
    have u13 : (ps_i s9 1131 4).toInt = (ps_i s 1131 4).toInt := xeq (kp_i K9 4 rfl)
    have r14 := mf_42 J9
    have u15 : (ps_i s9 1131 42).toInt = (ps_i s 1131 42).toInt := xeq (kp_i K9 42 rfl)
    exact ms_238_216 (σ := σ) (ax := ax) (n0 := n0) k   _ J9 K10 hFR (show (ps_i s9 1131 8).toInt ≤ (ps_i s9 1131 4).toInt from by omega) (hI2.imp (fun z => (show 1 ≤ (ps_i s9 1131 5).toInt from by omega)) id) (show (ps_i s9 1131 42).toInt = n0 from by omega) (show (ps_i s9 1131 42).toInt = (ps_i s0 1131 42).toInt from by omega) (show (ps_i s9 1131 42).toInt < 40 from by omega) (show 0 ≤ (ps_i s9 1131 42).toInt from by omega)

theorem ms_238_181 {x : Nat → Nat → Nat} {t : Int32} {d : Nat} {s0 : ps_S} {σ : mSig} {ax n0 : Int} {Q : Option Value → ps_S → Prop} (k : ∀ (s' : ps_S), mJ x t s' → kp [1134, 1143, 1144, 1145, 1146, 1147, 1148, 1152, 1153, 1154, 1155, 1156] [5, 6, 7, 8, 9, 10, 11, 23, 29, 30, 31, 32, 42] s0 s' → ((ps_i s' 1131 8).toInt ≤ (ps_i s' 1131 4).toInt) → (1 ≤ (ps_i s' 1131 5).toInt ∨ SRs σ (ps_a s' 1134) (ps_a s' 1152) (ps_a s' 1153) ax (ps_i s' 1131 42).toInt) → (∀ k : Nat, (k : Int) < 22468 ∨ 25748 ≤ (k : Int) → ps_a s' 1134 k = ps_a s0 1134 k) → (1 ≤ (ps_i s' 1131 5).toInt ∨ (ps_i s' 1131 42).toInt = (ps_i s0 1131 42).toInt + 1) → ((ps_i s0 1131 42).toInt ≤ (ps_i s' 1131 42).toInt) → Q none s') (x1 : Int32) (s : ps_S) (J : mJ x t s) (K : kp [1134, 1143, 1144, 1145, 1146, 1147, 1148, 1152, 1153, 1154, 1155, 1156] [5, 6, 7, 8, 9, 10, 11, 23, 29, 30, 31, 32, 42] s0 s) (hRp : SRs σ (ps_a s 1134) (ps_a s 1152) (ps_a s 1153) ax (n0 + 1)) (hFR : ∀ k : Nat, (k : Int) < 22468 ∨ 25748 ≤ (k : Int) → ps_a s 1134 k = ps_a s0 1134 k) (i2 : (ps_i s 1131 8).toInt ≤ (ps_i s 1131 4).toInt) (i3 : (ps_i s 1131 5).toInt = 0) (i4 : 0 ≤ x1.toInt) (i5 : x1.toInt < 40) (i6 : (ps_i s 1131 42).toInt = n0) (i7 : (ps_i s 1131 42).toInt = (ps_i s0 1131 42).toInt) (i8 : (ps_i s 1131 42).toInt < 40) (i9 : 0 ≤ (ps_i s 1131 42).toInt) : ps_At (d + 6) 238 181 [(0, .ref 1131), (1, .int x1)] [] s Q := by
  have r1 := mf_8 J
  have r2 := mf_4 J
  have r3 := mf_5 J
  have r4 := mf_42 J
  refine pg_238_181 (d := d + 5) ?_
  refine ms_208 J  (fun v5 b5 => ?_)
  refine And.intro (fun h6 => ?_) (fun h6 => ?_)
  · have f7 : v5.toInt ≠ (0 : Int) := xne h6
    refine ms_217 J  (fun v8 s8 J8 K8 p8_0 p8_1 p8_2 => ?_)
    have K9 := kpt K K8 rfl rfl
    have KC := K8
    have hRp : SRs σ (ps_a s8 1134) (ps_a s8 1152) (ps_a s8 1153) ax (n0 + 1) := by rw [show ps_a s8 1134 = ps_a s 1134 from (K8.2 1134 rfl).1, show ps_a s8 1152 = ps_a s 1152 from (K8.2 1152 rfl).1, show ps_a s8 1153 = ps_a s 1153 from (K8.2 1153 rfl).1]; exact hRp
    have hFR : ∀ k : Nat, (k : Int) < 22468 ∨ 25748 ≤ (k : Int) → ps_a s8 1134 k = ps_a s0 1134 k := by rw [show ps_a s8 1134 = ps_a s 1134 from (K8.2 1134 rfl).1]; exact hFR
    have p8_0' : 0 ≤ v8.toInt := p8_0
    have p8_1' : v8.toInt ≤ 11 := p8_1
    have p8_2' : 1 ≤ (ps_i s 1131 5).toInt → 1 ≤ (ps_i s8 1131 5).toInt := p8_2
    have r10 := mf_5 J8
    refine ps_nd_i (show pm_in x1 40 = true from xgi (show 0 ≤ x1.toInt from by omega) (show x1.toInt < 40 from by omega)) ?_
    have J11 := mwa_1156 (i := (Int32.toNatClampNeg x1)) (v := v8) J8 (show 0 ≤ v8.toInt from by omega) (show v8.toInt ≤ 11 from by omega)
    have K12 := kpa' K9 (r := 1156) (i := (Int32.toNatClampNeg x1)) (v := v8) rfl
    have r13 := mf_8 J8
    have u14 : (ps_i s8 1131 8).toInt = (ps_i s 1131 8).toInt := xeq (kp_i K8 8 rfl)
    have r15 := mf_4 J8
    have u16 : (ps_i s8 1131 4).toInt = (ps_i s 1131 4).toInt := xeq (kp_i K8 4 rfl)
    have r17 := mf_42 J8
    have u18 : (ps_i s8 1131 42).toInt = (ps_i s 1131 42).toInt := xeq (kp_i K8 42 rfl)
    exact ms_238_205 (σ := σ) (ax := ax) (n0 := n0) k   _ J11 K12 hFR (show (ps_i s8 1131 8).toInt ≤ (ps_i s8 1131 4).toInt from by omega) (Or.inr hRp) (show (ps_i s8 1131 42).toInt = n0 from by omega) (show (ps_i s8 1131 42).toInt = (ps_i s0 1131 42).toInt from by omega) (show (ps_i s8 1131 42).toInt < 40 from by omega) (show 0 ≤ (ps_i s8 1131 42).toInt from by omega)
  · have f19 : v5.toInt = (0 : Int) := xeq h6
    refine ms_196 J  (fun s20 J20 K20 p20_0 => ?_)
    have K21 := kpt K K20 rfl rfl
    have KC := K20
    have hRp : SRs σ (ps_a s20 1134) (ps_a s20 1152) (ps_a s20 1153) ax (n0 + 1) := by rw [show ps_a s20 1134 = ps_a s 1134 from (K20.2 1134 rfl).1, show ps_a s20 1152 = ps_a s 1152 from (K20.2 1152 rfl).1, show ps_a s20 1153 = ps_a s 1153 from (K20.2 1153 rfl).1]; exact hRp
    have hFR : ∀ k : Nat, (k : Int) < 22468 ∨ 25748 ≤ (k : Int) → ps_a s20 1134 k = ps_a s0 1134 k := by rw [show ps_a s20 1134 = ps_a s 1134 from (K20.2 1134 rfl).1]; exact hFR
    have p20_0' : 1 ≤ (ps_i s20 1131 5).toInt := p20_0
    have r22 := mf_5 J20
    have r23 := mf_8 J20
    have u24 : (ps_i s20 1131 8).toInt = (ps_i s 1131 8).toInt := xeq (kp_i K20 8 rfl)
    have r25 := mf_4 J20
    have u26 : (ps_i s20 1131 4).toInt = (ps_i s 1131 4).toInt := xeq (kp_i K20 4 rfl)
    have r27 := mf_42 J20
    have u28 : (ps_i s20 1131 42).toInt = (ps_i s 1131 42).toInt := xeq (kp_i K20 42 rfl)
    exact ms_238_205 (σ := σ) (ax := ax) (n0 := n0) k   _ J20 K21 hFR (show (ps_i s20 1131 8).toInt ≤ (ps_i s20 1131 4).toInt from by omega) (Or.inl (show 1 ≤ (ps_i s20 1131 5).toInt from by omega)) (show (ps_i s20 1131 42).toInt = n0 from by omega) (show (ps_i s20 1131 42).toInt = (ps_i s0 1131 42).toInt from by omega) (show (ps_i s20 1131 42).toInt < 40 from by omega) (show 0 ≤ (ps_i s20 1131 42).toInt from by omega)

theorem ms_238_162 {x : Nat → Nat → Nat} {t : Int32} {d : Nat} {s0 : ps_S} {σ : mSig} {ax n0 : Int} {Q : Option Value → ps_S → Prop} (k : ∀ (s' : ps_S), mJ x t s' → kp [1134, 1143, 1144, 1145, 1146, 1147, 1148, 1152, 1153, 1154, 1155, 1156] [5, 6, 7, 8, 9, 10, 11, 23, 29, 30, 31, 32, 42] s0 s' → ((ps_i s' 1131 8).toInt ≤ (ps_i s' 1131 4).toInt) → (1 ≤ (ps_i s' 1131 5).toInt ∨ SRs σ (ps_a s' 1134) (ps_a s' 1152) (ps_a s' 1153) ax (ps_i s' 1131 42).toInt) → (∀ k : Nat, (k : Int) < 22468 ∨ 25748 ≤ (k : Int) → ps_a s' 1134 k = ps_a s0 1134 k) → (1 ≤ (ps_i s' 1131 5).toInt ∨ (ps_i s' 1131 42).toInt = (ps_i s0 1131 42).toInt + 1) → ((ps_i s0 1131 42).toInt ≤ (ps_i s' 1131 42).toInt) → Q none s') (x1 : Int32) (x2 : Int32) (s : ps_S) (J : mJ x t s) (K : kp [1134, 1143, 1144, 1145, 1146, 1147, 1148, 1152, 1153, 1154, 1155, 1156] [5, 6, 7, 8, 9, 10, 11, 23, 29, 30, 31, 32, 42] s0 s) (hS2 : Sg (ps_a s 1135) (ps_a s 1136) (ps_a s 1138) (ps_a s 1139) (ps_i s 1131 22).toInt σ) (hRs : SRs σ (ps_a s 1134) (ps_a s 1152) (ps_a s 1153) ax (n0)) (hFR : ∀ k : Nat, (k : Int) < 22468 ∨ 25748 ≤ (k : Int) → ps_a s 1134 k = ps_a s0 1134 k) (hax : (ps_a s 1137 (Int32.toNatClampNeg (ps_i s 1131 22))).toInt = ax) (i4 : (ps_i s 1131 8).toInt ≤ (ps_i s 1131 4).toInt) (i5 : 0 ≤ x1.toInt) (i6 : x1.toInt < 40) (i7 : 0 ≤ x2.toInt) (i8 : x2.toInt ≤ 18) (i9 : (ps_a s 1152 (Int32.toNatClampNeg x1)).toInt = x2.toInt) (i10 : (ps_i s 1131 42).toInt = x1.toInt) (i11 : x1.toInt = n0) (i12 : (ps_i s 1131 42).toInt = (ps_i s0 1131 42).toInt) (i13 : 1 ≤ (ps_i s 1131 5).toInt ∨ x2.toInt ≠ 1 ∨ (0 ≤ (ps_a s 1153 (Int32.toNatClampNeg x1)).toInt ∧ (ps_a s 1153 (Int32.toNatClampNeg x1)).toInt < ax)) (i14 : 1 ≤ (ps_i s 1131 5).toInt ∨ x2.toInt = 0 ∨ x2.toInt = 15 ∨ 0 ≤ (ps_a s 1153 (Int32.toNatClampNeg x1)).toInt) (i15 : 1 ≤ (ps_i s 1131 5).toInt ∨ ¬ (x2.toInt = 12 ∨ x2.toInt = 13 ∨ x2.toInt = 15) ∨ Tm σ (ps_a s 1134) (24108 + 41 * x1.toInt)) (i16 : 1 ≤ (ps_i s 1131 5).toInt ∨ ¬ (x2.toInt = 0 ∨ x2.toInt = 6 ∨ x2.toInt = 7 ∨ x2.toInt = 10 ∨ x2.toInt = 13 ∨ 16 ≤ x2.toInt) ∨ Fm σ (ps_a s 1134) (22468 + 41 * x1.toInt)) : ps_At (d + 6) 238 162 [(0, .ref 1131), (1, .int x1), (2, .int x2)] [] s Q := by
  have r1 := mf_8 J
  have r2 := mf_4 J
  have r3 : 0 ≤ (ps_a s 1152 (Int32.toNatClampNeg x1)).toInt ∧ (ps_a s 1152 (Int32.toNatClampNeg x1)).toInt ≤ 18 := ma_1152 (i := x1) J (show 0 ≤ x1.toInt from by omega) (show x1.toInt < 40 from by omega)
  have r4 := mf_42 J
  have r5 := mf_5 J
  have r6 : -1 ≤ (ps_a s 1153 (Int32.toNatClampNeg x1)).toInt ∧ (ps_a s 1153 (Int32.toNatClampNeg x1)).toInt ≤ 9999 := ma_1153 (i := x1) J (show 0 ≤ x1.toInt from by omega) (show x1.toInt < 40 from by omega)
  refine pg_238_162 (d := d + 5) ?_
  refine ms_192 J  (fun v7 p7_0 b7 => ?_)
  have p7_0' : (v7.toInt = 0 ∧ 1 ≤ (ps_i s 1131 5).toInt) ∨ (v7.toInt = 1 ∧ (ps_i s 1131 5).toInt = 0) := p7_0
  refine And.intro (fun h8 => ?_) (fun h8 => ?_)
  · have f9 : v7.toInt = (0 : Int) := xeq h8
    have qz9 : 1 ≤ (ps_i s 1131 5).toInt := by omega
    clear p7_0' p7_0
    exact ms_238_216 (σ := σ) (ax := ax) (n0 := n0) k   _ J K hFR (show (ps_i s 1131 8).toInt ≤ (ps_i s 1131 4).toInt from by omega) (Or.inl (show 1 ≤ (ps_i s 1131 5).toInt from by omega)) (show (ps_i s 1131 42).toInt = n0 from by omega) (show (ps_i s 1131 42).toInt = (ps_i s0 1131 42).toInt from by omega) (show (ps_i s 1131 42).toInt < 40 from by omega) (show 0 ≤ (ps_i s 1131 42).toInt from by omega)
  · have f10 : v7.toInt ≠ (0 : Int) := xne h8
    have qz10 : (ps_i s 1131 5).toInt = 0 := by omega
    clear p7_0' p7_0
    have ex : Int32.toNatClampNeg x1 = x1.toInt.toNat := rfl
    have en : n0.toNat = Int32.toNatClampNeg x1 := by omega
    have hRp : SRs σ (ps_a s 1134) (ps_a s 1152) (ps_a s 1153) ax (n0 + 1) := SRs_up (kd := x2.toInt) (one := (ps_a s 1153 (Int32.toNatClampNeg x1)).toInt) hRs (by omega) (by rw [en]; omega) (by rw [en]) ⟨fun _ _ => by omega, fun z => (by rw [show n0 = x1.toInt from by omega]; exact (i16.resolve_left (by omega)).resolve_left (fun q => q z)), fun z => (by rw [show n0 = x1.toInt from by omega]; exact (i15.resolve_left (by omega)).resolve_left (fun q => q z)), fun z => by omega⟩
    refine And.intro (fun h11 => ?_) (fun h11 => ?_)
    · have f12 : x2.toInt = (11 : Int) := xeq h11
      exact ms_238_181 (σ := σ) (ax := ax) (n0 := n0) k  x1 _ J K hRp hFR (show (ps_i s 1131 8).toInt ≤ (ps_i s 1131 4).toInt from by omega) (show (ps_i s 1131 5).toInt = 0 from by omega) (show 0 ≤ x1.toInt from by omega) (show x1.toInt < 40 from by omega) (show (ps_i s 1131 42).toInt = n0 from by omega) (show (ps_i s 1131 42).toInt = (ps_i s0 1131 42).toInt from by omega) (show (ps_i s 1131 42).toInt < 40 from by omega) (show 0 ≤ (ps_i s 1131 42).toInt from by omega)
    · have f13 : x2.toInt ≠ (11 : Int) := xne h11
      refine And.intro (fun h14 => ?_) (fun h14 => ?_)
      · have f15 : x2.toInt ≠ (14 : Int) := xne h14
        exact ms_238_216 (σ := σ) (ax := ax) (n0 := n0) k   _ J K hFR (show (ps_i s 1131 8).toInt ≤ (ps_i s 1131 4).toInt from by omega) (Or.inr hRp) (show (ps_i s 1131 42).toInt = n0 from by omega) (show (ps_i s 1131 42).toInt = (ps_i s0 1131 42).toInt from by omega) (show (ps_i s 1131 42).toInt < 40 from by omega) (show 0 ≤ (ps_i s 1131 42).toInt from by omega)
      · have f16 : x2.toInt = (14 : Int) := xeq h14
        exact ms_238_181 (σ := σ) (ax := ax) (n0 := n0) k  x1 _ J K hRp hFR (show (ps_i s 1131 8).toInt ≤ (ps_i s 1131 4).toInt from by omega) (show (ps_i s 1131 5).toInt = 0 from by omega) (show 0 ≤ x1.toInt from by omega) (show x1.toInt < 40 from by omega) (show (ps_i s 1131 42).toInt = n0 from by omega) (show (ps_i s 1131 42).toInt = (ps_i s0 1131 42).toInt from by omega) (show (ps_i s 1131 42).toInt < 40 from by omega) (show 0 ≤ (ps_i s 1131 42).toInt from by omega)

theorem ms_238_134 {x : Nat → Nat → Nat} {t : Int32} {d : Nat} {s0 : ps_S} {σ : mSig} {ax n0 : Int} {Q : Option Value → ps_S → Prop} (k : ∀ (s' : ps_S), mJ x t s' → kp [1134, 1143, 1144, 1145, 1146, 1147, 1148, 1152, 1153, 1154, 1155, 1156] [5, 6, 7, 8, 9, 10, 11, 23, 29, 30, 31, 32, 42] s0 s' → ((ps_i s' 1131 8).toInt ≤ (ps_i s' 1131 4).toInt) → (1 ≤ (ps_i s' 1131 5).toInt ∨ SRs σ (ps_a s' 1134) (ps_a s' 1152) (ps_a s' 1153) ax (ps_i s' 1131 42).toInt) → (∀ k : Nat, (k : Int) < 22468 ∨ 25748 ≤ (k : Int) → ps_a s' 1134 k = ps_a s0 1134 k) → (1 ≤ (ps_i s' 1131 5).toInt ∨ (ps_i s' 1131 42).toInt = (ps_i s0 1131 42).toInt + 1) → ((ps_i s0 1131 42).toInt ≤ (ps_i s' 1131 42).toInt) → Q none s') (x1 : Int32) (x2 : Int32) (s : ps_S) (J : mJ x t s) (K : kp [1134, 1143, 1144, 1145, 1146, 1147, 1148, 1152, 1153, 1154, 1155, 1156] [5, 6, 7, 8, 9, 10, 11, 23, 29, 30, 31, 32, 42] s0 s) (hS2 : Sg (ps_a s 1135) (ps_a s 1136) (ps_a s 1138) (ps_a s 1139) (ps_i s 1131 22).toInt σ) (hRs : SRs σ (ps_a s 1134) (ps_a s 1152) (ps_a s 1153) ax (n0)) (hFR : ∀ k : Nat, (k : Int) < 22468 ∨ 25748 ≤ (k : Int) → ps_a s 1134 k = ps_a s0 1134 k) (hax : (ps_a s 1137 (Int32.toNatClampNeg (ps_i s 1131 22))).toInt = ax) (i4 : (ps_i s 1131 8).toInt ≤ (ps_i s 1131 4).toInt) (i5 : 0 ≤ x1.toInt) (i6 : x1.toInt < 40) (i7 : 0 ≤ x2.toInt) (i8 : x2.toInt ≤ 18) (i9 : (ps_a s 1152 (Int32.toNatClampNeg x1)).toInt = x2.toInt) (i10 : (ps_i s 1131 42).toInt = x1.toInt) (i11 : x1.toInt = n0) (i12 : (ps_i s 1131 42).toInt = (ps_i s0 1131 42).toInt) (i13 : 1 ≤ (ps_i s 1131 5).toInt ∨ x2.toInt ≠ 1 ∨ (0 ≤ (ps_a s 1153 (Int32.toNatClampNeg x1)).toInt ∧ (ps_a s 1153 (Int32.toNatClampNeg x1)).toInt < ax)) (i14 : 1 ≤ (ps_i s 1131 5).toInt ∨ x2.toInt = 0 ∨ x2.toInt = 15 ∨ 0 ≤ (ps_a s 1153 (Int32.toNatClampNeg x1)).toInt) (i15 : 1 ≤ (ps_i s 1131 5).toInt ∨ ¬ (x2.toInt = 12 ∨ x2.toInt = 13 ∨ x2.toInt = 15) ∨ Tm σ (ps_a s 1134) (24108 + 41 * x1.toInt)) : ps_At (d + 6) 238 134 [(0, .ref 1131), (1, .int x1), (2, .int x2)] [] s Q := by
  have r1 := mf_8 J
  have r2 := mf_4 J
  have r3 : 0 ≤ (ps_a s 1152 (Int32.toNatClampNeg x1)).toInt ∧ (ps_a s 1152 (Int32.toNatClampNeg x1)).toInt ≤ 18 := ma_1152 (i := x1) J (show 0 ≤ x1.toInt from by omega) (show x1.toInt < 40 from by omega)
  have r4 := mf_42 J
  have r5 := mf_5 J
  have r6 : -1 ≤ (ps_a s 1153 (Int32.toNatClampNeg x1)).toInt ∧ (ps_a s 1153 (Int32.toNatClampNeg x1)).toInt ≤ 9999 := ma_1153 (i := x1) J (show 0 ≤ x1.toInt from by omega) (show x1.toInt < 40 from by omega)
  refine pg_238_134 (d := d + 5) ?_
  have ex : Int32.toNatClampNeg x1 = x1.toInt.toNat := rfl
  have hR0 : SRs σ (ps_a s 1134) (ps_a s 1152) (ps_a s 1153) ax n0 := hRs
  refine ms_192 J  (fun v7 p7_0 b7 => ?_)
  have p7_0' : (v7.toInt = 0 ∧ 1 ≤ (ps_i s 1131 5).toInt) ∨ (v7.toInt = 1 ∧ (ps_i s 1131 5).toInt = 0) := p7_0
  refine And.intro (fun h8 => ?_) (fun h8 => ?_)
  · have f9 : v7.toInt = (0 : Int) := xeq h8
    have qz9 : 1 ≤ (ps_i s 1131 5).toInt := by omega
    clear p7_0' p7_0
    exact ms_238_162 (σ := σ) (ax := ax) (n0 := n0) k  x1 x2 _ J K hS2 hRs hFR hax (show (ps_i s 1131 8).toInt ≤ (ps_i s 1131 4).toInt from by omega) (show 0 ≤ x1.toInt from by omega) (show x1.toInt < 40 from by omega) (show 0 ≤ x2.toInt from by omega) (show x2.toInt ≤ 18 from by omega) (show (ps_a s 1152 (Int32.toNatClampNeg x1)).toInt = x2.toInt from by omega) (show (ps_i s 1131 42).toInt = x1.toInt from by omega) (show x1.toInt = n0 from by omega) (show (ps_i s 1131 42).toInt = (ps_i s0 1131 42).toInt from by omega) (show 1 ≤ (ps_i s 1131 5).toInt ∨ x2.toInt ≠ 1 ∨ (0 ≤ (ps_a s 1153 (Int32.toNatClampNeg x1)).toInt ∧ (ps_a s 1153 (Int32.toNatClampNeg x1)).toInt < ax) from by omega) (show 1 ≤ (ps_i s 1131 5).toInt ∨ x2.toInt = 0 ∨ x2.toInt = 15 ∨ 0 ≤ (ps_a s 1153 (Int32.toNatClampNeg x1)).toInt from by omega) (by assumption) (Or.inl (show 1 ≤ (ps_i s 1131 5).toInt from by omega))
  · have f10 : v7.toInt ≠ (0 : Int) := xne h8
    have qz10 : (ps_i s 1131 5).toInt = 0 := by omega
    clear p7_0' p7_0
    refine ms_236 J  (fun v11 p11_0 b11 => ?_)
    have p11_0' : (v11.toInt = 1 ∧ (x2.toInt = 0 ∨ x2.toInt = 6 ∨ x2.toInt = 7 ∨ x2.toInt = 10 ∨ x2.toInt = 13 ∨ 16 ≤ x2.toInt)) ∨ (v11.toInt = 0 ∧ x2.toInt ≠ 0 ∧ x2.toInt ≠ 6 ∧ x2.toInt ≠ 7 ∧ x2.toInt ≠ 10 ∧ x2.toInt ≠ 13 ∧ x2.toInt < 16) := p11_0
    refine And.intro (fun h12 => ?_) (fun h12 => ?_)
    · have f13 : v11.toInt = (0 : Int) := xeq h12
      exact ms_238_162 (σ := σ) (ax := ax) (n0 := n0) k  x1 x2 _ J K hS2 hRs hFR hax (show (ps_i s 1131 8).toInt ≤ (ps_i s 1131 4).toInt from by omega) (show 0 ≤ x1.toInt from by omega) (show x1.toInt < 40 from by omega) (show 0 ≤ x2.toInt from by omega) (show x2.toInt ≤ 18 from by omega) (show (ps_a s 1152 (Int32.toNatClampNeg x1)).toInt = x2.toInt from by omega) (show (ps_i s 1131 42).toInt = x1.toInt from by omega) (show x1.toInt = n0 from by omega) (show (ps_i s 1131 42).toInt = (ps_i s0 1131 42).toInt from by omega) (show 1 ≤ (ps_i s 1131 5).toInt ∨ x2.toInt ≠ 1 ∨ (0 ≤ (ps_a s 1153 (Int32.toNatClampNeg x1)).toInt ∧ (ps_a s 1153 (Int32.toNatClampNeg x1)).toInt < ax) from by omega) (show 1 ≤ (ps_i s 1131 5).toInt ∨ x2.toInt = 0 ∨ x2.toInt = 15 ∨ 0 ≤ (ps_a s 1153 (Int32.toNatClampNeg x1)).toInt from by omega) (by assumption) (Or.inr (Or.inl (by omega)))
    · have f14 : v11.toInt ≠ (0 : Int) := xne h12
      have a15 : ((41 : Int32) * x1).toInt = (41 : Int) * x1.toInt := xIm (show -2147483648 ≤ (41 : Int) * x1.toInt from by omega) (show (41 : Int) * x1.toInt < 2147483648 from by omega)
      have a16 : ((22468 : Int32) + ((41 : Int32) * x1)).toInt = (22468 : Int) + ((41 : Int32) * x1).toInt := xIa (show -2147483648 ≤ (22468 : Int) + ((41 : Int32) * x1).toInt from by omega) (show (22468 : Int) + ((41 : Int32) * x1).toInt < 2147483648 from by omega)
      refine ms_209 (b := true) J hS2 (show ((22468 : Int32) + ((41 : Int32) * x1)).toInt % 41 = 0 from by omega) (show 0 ≤ ((22468 : Int32) + ((41 : Int32) * x1)).toInt from by omega) (show ((22468 : Int32) + ((41 : Int32) * x1)).toInt < 27306 from by omega) (show (ps_i s 1131 8).toInt ≤ (ps_i s 1131 4).toInt from by omega) ((Or.inl ⟨by decide, rfl⟩)) ((by decide)) (fun s17 J17 K17 p17_0 p17_1 p17_2 p17_3 => ?_)
      have K18 := kpt K K17 rfl rfl
      have KC := K17
      have hS2 : Sg (ps_a s17 1135) (ps_a s17 1136) (ps_a s17 1138) (ps_a s17 1139) (ps_i s17 1131 22).toInt σ := by rw [show ps_a s17 1135 = ps_a s 1135 from (K17.2 1135 rfl).1, show ps_a s17 1136 = ps_a s 1136 from (K17.2 1136 rfl).1, show ps_a s17 1138 = ps_a s 1138 from (K17.2 1138 rfl).1, show ps_a s17 1139 = ps_a s 1139 from (K17.2 1139 rfl).1, show ps_i s17 1131 22 = ps_i s 1131 22 from kp_i K17 22 rfl]; exact hS2
      have hax : (ps_a s17 1137 (Int32.toNatClampNeg (ps_i s17 1131 22))).toInt = ax := by rw [show ps_a s17 1137 = ps_a s 1137 from (K17.2 1137 rfl).1, show ps_i s17 1131 22 = ps_i s 1131 22 from kp_i K17 22 rfl]; exact hax
      have hR0 : SRs σ (ps_a s 1134) (ps_a s17 1152) (ps_a s17 1153) ax n0 := by rw [show ps_a s17 1152 = ps_a s 1152 from (K17.2 1152 rfl).1, show ps_a s17 1153 = ps_a s 1153 from (K17.2 1153 rfl).1]; exact hR0
      have p17_0' : (ps_i s17 1131 8).toInt ≤ (ps_i s17 1131 4).toInt := p17_0
      have r19 := mf_8 J17
      have r20 := mf_4 J17
      have u21 : (ps_i s17 1131 4).toInt = (ps_i s 1131 4).toInt := xeq (kp_i K17 4 rfl)
      have p17_1' : 1 ≤ (ps_i s 1131 5).toInt → 1 ≤ (ps_i s17 1131 5).toInt := p17_1
      have r22 := mf_5 J17
      have ho : _ := p17_2
      have hrow : _ := p17_3
      have r23 : 0 ≤ (ps_a s17 1152 (Int32.toNatClampNeg x1)).toInt ∧ (ps_a s17 1152 (Int32.toNatClampNeg x1)).toInt ≤ 18 := ma_1152 (i := x1) J17 (show 0 ≤ x1.toInt from by omega) (show x1.toInt < 40 from by omega)
      have u24 : (ps_a s17 1152 (Int32.toNatClampNeg x1)).toInt = (ps_a s 1152 (Int32.toNatClampNeg x1)).toInt := xeq (kp_a K17 1152 rfl _)
      have r25 := mf_42 J17
      have u26 : (ps_i s17 1131 42).toInt = (ps_i s 1131 42).toInt := xeq (kp_i K17 42 rfl)
      have r27 : -1 ≤ (ps_a s17 1153 (Int32.toNatClampNeg x1)).toInt ∧ (ps_a s17 1153 (Int32.toNatClampNeg x1)).toInt ≤ 9999 := ma_1153 (i := x1) J17 (show 0 ≤ x1.toInt from by omega) (show x1.toInt < 40 from by omega)
      have u28 : (ps_a s17 1153 (Int32.toNatClampNeg x1)).toInt = (ps_a s 1153 (Int32.toNatClampNeg x1)).toInt := xeq (kp_a K17 1153 rfl _)
      exact ms_238_162 (σ := σ) (ax := ax) (n0 := n0) k  x1 x2 _ J17 K18 hS2 (SRs_row (i := x1.toInt) hR0 (fun k hk => ho k (by omega)) (Or.inl rfl) (by omega) (by omega)) (fun k hk => (ho k (by omega)).trans (hFR k hk)) hax (show (ps_i s17 1131 8).toInt ≤ (ps_i s17 1131 4).toInt from by omega) (show 0 ≤ x1.toInt from by omega) (show x1.toInt < 40 from by omega) (show 0 ≤ x2.toInt from by omega) (show x2.toInt ≤ 18 from by omega) (show (ps_a s17 1152 (Int32.toNatClampNeg x1)).toInt = x2.toInt from by omega) (show (ps_i s17 1131 42).toInt = x1.toInt from by omega) (show x1.toInt = n0 from by omega) (show (ps_i s17 1131 42).toInt = (ps_i s0 1131 42).toInt from by omega) (show 1 ≤ (ps_i s17 1131 5).toInt ∨ x2.toInt ≠ 1 ∨ (0 ≤ (ps_a s17 1153 (Int32.toNatClampNeg x1)).toInt ∧ (ps_a s17 1153 (Int32.toNatClampNeg x1)).toInt < ax) from by omega) (show 1 ≤ (ps_i s17 1131 5).toInt ∨ x2.toInt = 0 ∨ x2.toInt = 15 ∨ 0 ≤ (ps_a s17 1153 (Int32.toNatClampNeg x1)).toInt from by omega) (i15.elim (fun z => Or.inl (show 1 ≤ (ps_i s17 1131 5).toInt from by omega)) (fun z => Or.inr (z.imp id (fun q => Tm_keep q (fun k h1 h2 => ho k (by omega)))))) (hrow.imp id (fun z => Or.inr (by obtain ⟨l2, g1, g2, g3⟩ := z; exact ⟨l2, (by rw [show ((22468 : Int32) + ((41 : Int32) * x1)).toInt = 22468 + 41 * x1.toInt from by omega] at g1; exact g1), g2⟩)))

theorem ms_238_106 {x : Nat → Nat → Nat} {t : Int32} {d : Nat} {s0 : ps_S} {σ : mSig} {ax n0 : Int} {Q : Option Value → ps_S → Prop} (k : ∀ (s' : ps_S), mJ x t s' → kp [1134, 1143, 1144, 1145, 1146, 1147, 1148, 1152, 1153, 1154, 1155, 1156] [5, 6, 7, 8, 9, 10, 11, 23, 29, 30, 31, 32, 42] s0 s' → ((ps_i s' 1131 8).toInt ≤ (ps_i s' 1131 4).toInt) → (1 ≤ (ps_i s' 1131 5).toInt ∨ SRs σ (ps_a s' 1134) (ps_a s' 1152) (ps_a s' 1153) ax (ps_i s' 1131 42).toInt) → (∀ k : Nat, (k : Int) < 22468 ∨ 25748 ≤ (k : Int) → ps_a s' 1134 k = ps_a s0 1134 k) → (1 ≤ (ps_i s' 1131 5).toInt ∨ (ps_i s' 1131 42).toInt = (ps_i s0 1131 42).toInt + 1) → ((ps_i s0 1131 42).toInt ≤ (ps_i s' 1131 42).toInt) → Q none s') (x1 : Int32) (x2 : Int32) (s : ps_S) (J : mJ x t s) (K : kp [1134, 1143, 1144, 1145, 1146, 1147, 1148, 1152, 1153, 1154, 1155, 1156] [5, 6, 7, 8, 9, 10, 11, 23, 29, 30, 31, 32, 42] s0 s) (hS2 : Sg (ps_a s 1135) (ps_a s 1136) (ps_a s 1138) (ps_a s 1139) (ps_i s 1131 22).toInt σ) (hRs : SRs σ (ps_a s 1134) (ps_a s 1152) (ps_a s 1153) ax (n0)) (hFR : ∀ k : Nat, (k : Int) < 22468 ∨ 25748 ≤ (k : Int) → ps_a s 1134 k = ps_a s0 1134 k) (hax : (ps_a s 1137 (Int32.toNatClampNeg (ps_i s 1131 22))).toInt = ax) (i4 : (ps_i s 1131 8).toInt ≤ (ps_i s 1131 4).toInt) (i5 : 0 ≤ x1.toInt) (i6 : x1.toInt < 40) (i7 : 0 ≤ x2.toInt) (i8 : x2.toInt ≤ 18) (i9 : (ps_a s 1152 (Int32.toNatClampNeg x1)).toInt = x2.toInt) (i10 : (ps_i s 1131 42).toInt = x1.toInt) (i11 : x1.toInt = n0) (i12 : (ps_i s 1131 42).toInt = (ps_i s0 1131 42).toInt) (i13 : 1 ≤ (ps_i s 1131 5).toInt ∨ x2.toInt ≠ 1 ∨ (0 ≤ (ps_a s 1153 (Int32.toNatClampNeg x1)).toInt ∧ (ps_a s 1153 (Int32.toNatClampNeg x1)).toInt < ax)) (i14 : 1 ≤ (ps_i s 1131 5).toInt ∨ x2.toInt = 0 ∨ x2.toInt = 15 ∨ 0 ≤ (ps_a s 1153 (Int32.toNatClampNeg x1)).toInt) : ps_At (d + 6) 238 106 [(0, .ref 1131), (1, .int x1), (2, .int x2)] [] s Q := by
  have r1 := mf_8 J
  have r2 := mf_4 J
  have r3 : 0 ≤ (ps_a s 1152 (Int32.toNatClampNeg x1)).toInt ∧ (ps_a s 1152 (Int32.toNatClampNeg x1)).toInt ≤ 18 := ma_1152 (i := x1) J (show 0 ≤ x1.toInt from by omega) (show x1.toInt < 40 from by omega)
  have r4 := mf_42 J
  have r5 := mf_5 J
  have r6 : -1 ≤ (ps_a s 1153 (Int32.toNatClampNeg x1)).toInt ∧ (ps_a s 1153 (Int32.toNatClampNeg x1)).toInt ≤ 9999 := ma_1153 (i := x1) J (show 0 ≤ x1.toInt from by omega) (show x1.toInt < 40 from by omega)
  refine pg_238_106 (d := d + 5) ?_
  have ex : Int32.toNatClampNeg x1 = x1.toInt.toNat := rfl
  have hR0 : SRs σ (ps_a s 1134) (ps_a s 1152) (ps_a s 1153) ax n0 := hRs
  refine ms_192 J  (fun v7 p7_0 b7 => ?_)
  have p7_0' : (v7.toInt = 0 ∧ 1 ≤ (ps_i s 1131 5).toInt) ∨ (v7.toInt = 1 ∧ (ps_i s 1131 5).toInt = 0) := p7_0
  refine And.intro (fun h8 => ?_) (fun h8 => ?_)
  · have f9 : v7.toInt = (0 : Int) := xeq h8
    have qz9 : 1 ≤ (ps_i s 1131 5).toInt := by omega
    clear p7_0' p7_0
    exact ms_238_134 (σ := σ) (ax := ax) (n0 := n0) k  x1 x2 _ J K hS2 hRs hFR hax (show (ps_i s 1131 8).toInt ≤ (ps_i s 1131 4).toInt from by omega) (show 0 ≤ x1.toInt from by omega) (show x1.toInt < 40 from by omega) (show 0 ≤ x2.toInt from by omega) (show x2.toInt ≤ 18 from by omega) (show (ps_a s 1152 (Int32.toNatClampNeg x1)).toInt = x2.toInt from by omega) (show (ps_i s 1131 42).toInt = x1.toInt from by omega) (show x1.toInt = n0 from by omega) (show (ps_i s 1131 42).toInt = (ps_i s0 1131 42).toInt from by omega) (show 1 ≤ (ps_i s 1131 5).toInt ∨ x2.toInt ≠ 1 ∨ (0 ≤ (ps_a s 1153 (Int32.toNatClampNeg x1)).toInt ∧ (ps_a s 1153 (Int32.toNatClampNeg x1)).toInt < ax) from by omega) (show 1 ≤ (ps_i s 1131 5).toInt ∨ x2.toInt = 0 ∨ x2.toInt = 15 ∨ 0 ≤ (ps_a s 1153 (Int32.toNatClampNeg x1)).toInt from by omega) (Or.inl (show 1 ≤ (ps_i s 1131 5).toInt from by omega))
  · have f10 : v7.toInt ≠ (0 : Int) := xne h8
    have qz10 : (ps_i s 1131 5).toInt = 0 := by omega
    clear p7_0' p7_0
    refine ms_235 J  (fun v11 p11_0 b11 => ?_)
    have p11_0' : (v11.toInt = 1 ∧ (x2.toInt = 12 ∨ x2.toInt = 13 ∨ x2.toInt = 15)) ∨ (v11.toInt = 0 ∧ x2.toInt ≠ 12 ∧ x2.toInt ≠ 13 ∧ x2.toInt ≠ 15) := p11_0
    refine And.intro (fun h12 => ?_) (fun h12 => ?_)
    · have f13 : v11.toInt = (0 : Int) := xeq h12
      exact ms_238_134 (σ := σ) (ax := ax) (n0 := n0) k  x1 x2 _ J K hS2 hRs hFR hax (show (ps_i s 1131 8).toInt ≤ (ps_i s 1131 4).toInt from by omega) (show 0 ≤ x1.toInt from by omega) (show x1.toInt < 40 from by omega) (show 0 ≤ x2.toInt from by omega) (show x2.toInt ≤ 18 from by omega) (show (ps_a s 1152 (Int32.toNatClampNeg x1)).toInt = x2.toInt from by omega) (show (ps_i s 1131 42).toInt = x1.toInt from by omega) (show x1.toInt = n0 from by omega) (show (ps_i s 1131 42).toInt = (ps_i s0 1131 42).toInt from by omega) (show 1 ≤ (ps_i s 1131 5).toInt ∨ x2.toInt ≠ 1 ∨ (0 ≤ (ps_a s 1153 (Int32.toNatClampNeg x1)).toInt ∧ (ps_a s 1153 (Int32.toNatClampNeg x1)).toInt < ax) from by omega) (show 1 ≤ (ps_i s 1131 5).toInt ∨ x2.toInt = 0 ∨ x2.toInt = 15 ∨ 0 ≤ (ps_a s 1153 (Int32.toNatClampNeg x1)).toInt from by omega) (Or.inr (Or.inl (by omega)))
    · have f14 : v11.toInt ≠ (0 : Int) := xne h12
      have a15 : ((41 : Int32) * x1).toInt = (41 : Int) * x1.toInt := xIm (show -2147483648 ≤ (41 : Int) * x1.toInt from by omega) (show (41 : Int) * x1.toInt < 2147483648 from by omega)
      have a16 : ((24108 : Int32) + ((41 : Int32) * x1)).toInt = (24108 : Int) + ((41 : Int32) * x1).toInt := xIa (show -2147483648 ≤ (24108 : Int) + ((41 : Int32) * x1).toInt from by omega) (show (24108 : Int) + ((41 : Int32) * x1).toInt < 2147483648 from by omega)
      refine ms_209 (b := false) J hS2 (show ((24108 : Int32) + ((41 : Int32) * x1)).toInt % 41 = 0 from by omega) (show 0 ≤ ((24108 : Int32) + ((41 : Int32) * x1)).toInt from by omega) (show ((24108 : Int32) + ((41 : Int32) * x1)).toInt < 27306 from by omega) (show (ps_i s 1131 8).toInt ≤ (ps_i s 1131 4).toInt from by omega) ((Or.inr ⟨by decide, rfl⟩)) ((by decide)) (fun s17 J17 K17 p17_0 p17_1 p17_2 p17_3 => ?_)
      have K18 := kpt K K17 rfl rfl
      have KC := K17
      have hS2 : Sg (ps_a s17 1135) (ps_a s17 1136) (ps_a s17 1138) (ps_a s17 1139) (ps_i s17 1131 22).toInt σ := by rw [show ps_a s17 1135 = ps_a s 1135 from (K17.2 1135 rfl).1, show ps_a s17 1136 = ps_a s 1136 from (K17.2 1136 rfl).1, show ps_a s17 1138 = ps_a s 1138 from (K17.2 1138 rfl).1, show ps_a s17 1139 = ps_a s 1139 from (K17.2 1139 rfl).1, show ps_i s17 1131 22 = ps_i s 1131 22 from kp_i K17 22 rfl]; exact hS2
      have hax : (ps_a s17 1137 (Int32.toNatClampNeg (ps_i s17 1131 22))).toInt = ax := by rw [show ps_a s17 1137 = ps_a s 1137 from (K17.2 1137 rfl).1, show ps_i s17 1131 22 = ps_i s 1131 22 from kp_i K17 22 rfl]; exact hax
      have hR0 : SRs σ (ps_a s 1134) (ps_a s17 1152) (ps_a s17 1153) ax n0 := by rw [show ps_a s17 1152 = ps_a s 1152 from (K17.2 1152 rfl).1, show ps_a s17 1153 = ps_a s 1153 from (K17.2 1153 rfl).1]; exact hR0
      have p17_0' : (ps_i s17 1131 8).toInt ≤ (ps_i s17 1131 4).toInt := p17_0
      have r19 := mf_8 J17
      have r20 := mf_4 J17
      have u21 : (ps_i s17 1131 4).toInt = (ps_i s 1131 4).toInt := xeq (kp_i K17 4 rfl)
      have p17_1' : 1 ≤ (ps_i s 1131 5).toInt → 1 ≤ (ps_i s17 1131 5).toInt := p17_1
      have r22 := mf_5 J17
      have ho : _ := p17_2
      have hrow : _ := p17_3
      have r23 : 0 ≤ (ps_a s17 1152 (Int32.toNatClampNeg x1)).toInt ∧ (ps_a s17 1152 (Int32.toNatClampNeg x1)).toInt ≤ 18 := ma_1152 (i := x1) J17 (show 0 ≤ x1.toInt from by omega) (show x1.toInt < 40 from by omega)
      have u24 : (ps_a s17 1152 (Int32.toNatClampNeg x1)).toInt = (ps_a s 1152 (Int32.toNatClampNeg x1)).toInt := xeq (kp_a K17 1152 rfl _)
      have r25 := mf_42 J17
      have u26 : (ps_i s17 1131 42).toInt = (ps_i s 1131 42).toInt := xeq (kp_i K17 42 rfl)
      have r27 : -1 ≤ (ps_a s17 1153 (Int32.toNatClampNeg x1)).toInt ∧ (ps_a s17 1153 (Int32.toNatClampNeg x1)).toInt ≤ 9999 := ma_1153 (i := x1) J17 (show 0 ≤ x1.toInt from by omega) (show x1.toInt < 40 from by omega)
      have u28 : (ps_a s17 1153 (Int32.toNatClampNeg x1)).toInt = (ps_a s 1153 (Int32.toNatClampNeg x1)).toInt := xeq (kp_a K17 1153 rfl _)
      exact ms_238_134 (σ := σ) (ax := ax) (n0 := n0) k  x1 x2 _ J17 K18 hS2 (SRs_row (i := x1.toInt) hR0 (fun k hk => ho k (by omega)) (Or.inr rfl) (by omega) (by omega)) (fun k hk => (ho k (by omega)).trans (hFR k hk)) hax (show (ps_i s17 1131 8).toInt ≤ (ps_i s17 1131 4).toInt from by omega) (show 0 ≤ x1.toInt from by omega) (show x1.toInt < 40 from by omega) (show 0 ≤ x2.toInt from by omega) (show x2.toInt ≤ 18 from by omega) (show (ps_a s17 1152 (Int32.toNatClampNeg x1)).toInt = x2.toInt from by omega) (show (ps_i s17 1131 42).toInt = x1.toInt from by omega) (show x1.toInt = n0 from by omega) (show (ps_i s17 1131 42).toInt = (ps_i s0 1131 42).toInt from by omega) (show 1 ≤ (ps_i s17 1131 5).toInt ∨ x2.toInt ≠ 1 ∨ (0 ≤ (ps_a s17 1153 (Int32.toNatClampNeg x1)).toInt ∧ (ps_a s17 1153 (Int32.toNatClampNeg x1)).toInt < ax) from by omega) (show 1 ≤ (ps_i s17 1131 5).toInt ∨ x2.toInt = 0 ∨ x2.toInt = 15 ∨ 0 ≤ (ps_a s17 1153 (Int32.toNatClampNeg x1)).toInt from by omega) (hrow.imp id (fun z => Or.inr (by obtain ⟨l2, g1, g2, g3⟩ := z; exact ⟨l2, (by rw [show ((24108 : Int32) + ((41 : Int32) * x1)).toInt = 24108 + 41 * x1.toInt from by omega] at g1; exact g1), g2⟩)))

theorem ms_238_88 {x : Nat → Nat → Nat} {t : Int32} {d : Nat} {s0 : ps_S} {σ : mSig} {ax n0 : Int} {Q : Option Value → ps_S → Prop} (k : ∀ (s' : ps_S), mJ x t s' → kp [1134, 1143, 1144, 1145, 1146, 1147, 1148, 1152, 1153, 1154, 1155, 1156] [5, 6, 7, 8, 9, 10, 11, 23, 29, 30, 31, 32, 42] s0 s' → ((ps_i s' 1131 8).toInt ≤ (ps_i s' 1131 4).toInt) → (1 ≤ (ps_i s' 1131 5).toInt ∨ SRs σ (ps_a s' 1134) (ps_a s' 1152) (ps_a s' 1153) ax (ps_i s' 1131 42).toInt) → (∀ k : Nat, (k : Int) < 22468 ∨ 25748 ≤ (k : Int) → ps_a s' 1134 k = ps_a s0 1134 k) → (1 ≤ (ps_i s' 1131 5).toInt ∨ (ps_i s' 1131 42).toInt = (ps_i s0 1131 42).toInt + 1) → ((ps_i s0 1131 42).toInt ≤ (ps_i s' 1131 42).toInt) → Q none s') (x1 : Int32) (x2 : Int32) (s : ps_S) (J : mJ x t s) (K : kp [1134, 1143, 1144, 1145, 1146, 1147, 1148, 1152, 1153, 1154, 1155, 1156] [5, 6, 7, 8, 9, 10, 11, 23, 29, 30, 31, 32, 42] s0 s) (hS2 : Sg (ps_a s 1135) (ps_a s 1136) (ps_a s 1138) (ps_a s 1139) (ps_i s 1131 22).toInt σ) (hRs : SRs σ (ps_a s 1134) (ps_a s 1152) (ps_a s 1153) ax (n0)) (hFR : ∀ k : Nat, (k : Int) < 22468 ∨ 25748 ≤ (k : Int) → ps_a s 1134 k = ps_a s0 1134 k) (hax : (ps_a s 1137 (Int32.toNatClampNeg (ps_i s 1131 22))).toInt = ax) (i4 : (ps_i s 1131 8).toInt ≤ (ps_i s 1131 4).toInt) (i5 : 0 ≤ x1.toInt) (i6 : x1.toInt < 40) (i7 : 0 ≤ x2.toInt) (i8 : x2.toInt ≤ 18) (i9 : (ps_a s 1152 (Int32.toNatClampNeg x1)).toInt = x2.toInt) (i10 : (ps_i s 1131 42).toInt = x1.toInt) (i11 : x1.toInt = n0) (i12 : (ps_i s 1131 42).toInt = (ps_i s0 1131 42).toInt) (i13 : 1 ≤ (ps_i s 1131 5).toInt ∨ x2.toInt ≠ 1 ∨ (0 ≤ (ps_a s 1153 (Int32.toNatClampNeg x1)).toInt ∧ (ps_a s 1153 (Int32.toNatClampNeg x1)).toInt < ax)) (i14 : 1 ≤ (ps_i s 1131 5).toInt ∨ x2.toInt = 0 ∨ x2.toInt = 15 ∨ 0 ≤ (ps_a s 1153 (Int32.toNatClampNeg x1)).toInt) : ps_At (d + 6) 238 88 [(0, .ref 1131), (1, .int x1), (2, .int x2)] [] s Q := by
  have r1 := mf_8 J
  have r2 := mf_4 J
  have r3 : 0 ≤ (ps_a s 1152 (Int32.toNatClampNeg x1)).toInt ∧ (ps_a s 1152 (Int32.toNatClampNeg x1)).toInt ≤ 18 := ma_1152 (i := x1) J (show 0 ≤ x1.toInt from by omega) (show x1.toInt < 40 from by omega)
  have r4 := mf_42 J
  have r5 := mf_5 J
  have r6 : -1 ≤ (ps_a s 1153 (Int32.toNatClampNeg x1)).toInt ∧ (ps_a s 1153 (Int32.toNatClampNeg x1)).toInt ≤ 9999 := ma_1153 (i := x1) J (show 0 ≤ x1.toInt from by omega) (show x1.toInt < 40 from by omega)
  refine pg_238_88 (d := d + 5) ?_
  have ex : Int32.toNatClampNeg x1 = x1.toInt.toNat := rfl
  refine ms_234 J  (fun v7 p7_0 => ?_)
  have p7_0' : ((x2.toInt = 0 ∨ x2.toInt = 1 ∨ x2.toInt = 15) ∧ v7.toInt = 0) ∨ ((x2.toInt = 3 ∨ x2.toInt = 9 ∨ x2.toInt = 14 ∨ x2.toInt = 16) ∧ v7.toInt = 2) ∨ (x2.toInt = 8 ∧ v7.toInt = 3) ∨ (v7.toInt = 1 ∧ x2.toInt ≠ 0 ∧ x2.toInt ≠ 1 ∧ x2.toInt ≠ 15 ∧ x2.toInt ≠ 3 ∧ x2.toInt ≠ 9 ∧ x2.toInt ≠ 14 ∧ x2.toInt ≠ 16 ∧ x2.toInt ≠ 8) := p7_0
  refine And.intro (fun h8 => ?_) (fun h8 => ?_)
  · have f9 : v7.toInt ≤ (2 : Int) := xle h8
    exact ms_238_106 (σ := σ) (ax := ax) (n0 := n0) k  x1 x2 _ J K hS2 hRs hFR hax (show (ps_i s 1131 8).toInt ≤ (ps_i s 1131 4).toInt from by omega) (show 0 ≤ x1.toInt from by omega) (show x1.toInt < 40 from by omega) (show 0 ≤ x2.toInt from by omega) (show x2.toInt ≤ 18 from by omega) (show (ps_a s 1152 (Int32.toNatClampNeg x1)).toInt = x2.toInt from by omega) (show (ps_i s 1131 42).toInt = x1.toInt from by omega) (show x1.toInt = n0 from by omega) (show (ps_i s 1131 42).toInt = (ps_i s0 1131 42).toInt from by omega) (show 1 ≤ (ps_i s 1131 5).toInt ∨ x2.toInt ≠ 1 ∨ (0 ≤ (ps_a s 1153 (Int32.toNatClampNeg x1)).toInt ∧ (ps_a s 1153 (Int32.toNatClampNeg x1)).toInt < ax) from by omega) (show 1 ≤ (ps_i s 1131 5).toInt ∨ x2.toInt = 0 ∨ x2.toInt = 15 ∨ 0 ≤ (ps_a s 1153 (Int32.toNatClampNeg x1)).toInt from by omega)
  · have f10 : (2 : Int) < v7.toInt := xlt h8
    refine ms_237 J (show (ps_i s 1131 8).toInt ≤ (ps_i s 1131 4).toInt from by omega) (fun v11 s11 J11 K11 p11_0 p11_1 p11_2 p11_3 => ?_)
    have K12 := kpt K K11 rfl rfl
    have KC := K11
    have hS2 : Sg (ps_a s11 1135) (ps_a s11 1136) (ps_a s11 1138) (ps_a s11 1139) (ps_i s11 1131 22).toInt σ := by rw [show ps_a s11 1135 = ps_a s 1135 from (K11.2 1135 rfl).1, show ps_a s11 1136 = ps_a s 1136 from (K11.2 1136 rfl).1, show ps_a s11 1138 = ps_a s 1138 from (K11.2 1138 rfl).1, show ps_a s11 1139 = ps_a s 1139 from (K11.2 1139 rfl).1, show ps_i s11 1131 22 = ps_i s 1131 22 from kp_i K11 22 rfl]; exact hS2
    have hRs : SRs σ (ps_a s11 1134) (ps_a s11 1152) (ps_a s11 1153) ax (n0) := by rw [show ps_a s11 1134 = ps_a s 1134 from (K11.2 1134 rfl).1, show ps_a s11 1152 = ps_a s 1152 from (K11.2 1152 rfl).1, show ps_a s11 1153 = ps_a s 1153 from (K11.2 1153 rfl).1]; exact hRs
    have hFR : ∀ k : Nat, (k : Int) < 22468 ∨ 25748 ≤ (k : Int) → ps_a s11 1134 k = ps_a s0 1134 k := by rw [show ps_a s11 1134 = ps_a s 1134 from (K11.2 1134 rfl).1]; exact hFR
    have hax : (ps_a s11 1137 (Int32.toNatClampNeg (ps_i s11 1131 22))).toInt = ax := by rw [show ps_a s11 1137 = ps_a s 1137 from (K11.2 1137 rfl).1, show ps_i s11 1131 22 = ps_i s 1131 22 from kp_i K11 22 rfl]; exact hax
    have p11_0' : (ps_i s11 1131 8).toInt ≤ (ps_i s11 1131 4).toInt := p11_0
    have r13 := mf_8 J11
    have r14 := mf_4 J11
    have u15 : (ps_i s11 1131 4).toInt = (ps_i s 1131 4).toInt := xeq (kp_i K11 4 rfl)
    have p11_1' : 0 ≤ v11.toInt := p11_1
    have p11_2' : v11.toInt ≤ 9999 := p11_2
    have p11_3' : 1 ≤ (ps_i s 1131 5).toInt → 1 ≤ (ps_i s11 1131 5).toInt := p11_3
    have r16 := mf_5 J11
    refine ps_nd_i (show pm_in x1 40 = true from xgi (show 0 ≤ x1.toInt from by omega) (show x1.toInt < 40 from by omega)) ?_
    have J17 := mwa_1155 (i := (Int32.toNatClampNeg x1)) (v := v11) J11 (show 0 ≤ v11.toInt from by omega) (show v11.toInt ≤ 9999 from by omega)
    have K18 := kpa' K12 (r := 1155) (i := (Int32.toNatClampNeg x1)) (v := v11) rfl
    have r19 : 0 ≤ (ps_a s11 1152 (Int32.toNatClampNeg x1)).toInt ∧ (ps_a s11 1152 (Int32.toNatClampNeg x1)).toInt ≤ 18 := ma_1152 (i := x1) J11 (show 0 ≤ x1.toInt from by omega) (show x1.toInt < 40 from by omega)
    have u20 : (ps_a s11 1152 (Int32.toNatClampNeg x1)).toInt = (ps_a s 1152 (Int32.toNatClampNeg x1)).toInt := xeq (kp_a K11 1152 rfl _)
    have r21 := mf_42 J11
    have u22 : (ps_i s11 1131 42).toInt = (ps_i s 1131 42).toInt := xeq (kp_i K11 42 rfl)
    have r23 : -1 ≤ (ps_a s11 1153 (Int32.toNatClampNeg x1)).toInt ∧ (ps_a s11 1153 (Int32.toNatClampNeg x1)).toInt ≤ 9999 := ma_1153 (i := x1) J11 (show 0 ≤ x1.toInt from by omega) (show x1.toInt < 40 from by omega)
    have u24 : (ps_a s11 1153 (Int32.toNatClampNeg x1)).toInt = (ps_a s 1153 (Int32.toNatClampNeg x1)).toInt := xeq (kp_a K11 1153 rfl _)
    exact ms_238_106 (σ := σ) (ax := ax) (n0 := n0) k  x1 x2 _ J17 K18 hS2 hRs hFR hax (show (ps_i s11 1131 8).toInt ≤ (ps_i s11 1131 4).toInt from by omega) (show 0 ≤ x1.toInt from by omega) (show x1.toInt < 40 from by omega) (show 0 ≤ x2.toInt from by omega) (show x2.toInt ≤ 18 from by omega) (show (ps_a s11 1152 (Int32.toNatClampNeg x1)).toInt = x2.toInt from by omega) (show (ps_i s11 1131 42).toInt = x1.toInt from by omega) (show x1.toInt = n0 from by omega) (show (ps_i s11 1131 42).toInt = (ps_i s0 1131 42).toInt from by omega) (show 1 ≤ (ps_i s11 1131 5).toInt ∨ x2.toInt ≠ 1 ∨ (0 ≤ (ps_a s11 1153 (Int32.toNatClampNeg x1)).toInt ∧ (ps_a s11 1153 (Int32.toNatClampNeg x1)).toInt < ax) from by omega) (show 1 ≤ (ps_i s11 1131 5).toInt ∨ x2.toInt = 0 ∨ x2.toInt = 15 ∨ 0 ≤ (ps_a s11 1153 (Int32.toNatClampNeg x1)).toInt from by omega)

theorem ms_238_70 {x : Nat → Nat → Nat} {t : Int32} {d : Nat} {s0 : ps_S} {σ : mSig} {ax n0 : Int} {Q : Option Value → ps_S → Prop} (k : ∀ (s' : ps_S), mJ x t s' → kp [1134, 1143, 1144, 1145, 1146, 1147, 1148, 1152, 1153, 1154, 1155, 1156] [5, 6, 7, 8, 9, 10, 11, 23, 29, 30, 31, 32, 42] s0 s' → ((ps_i s' 1131 8).toInt ≤ (ps_i s' 1131 4).toInt) → (1 ≤ (ps_i s' 1131 5).toInt ∨ SRs σ (ps_a s' 1134) (ps_a s' 1152) (ps_a s' 1153) ax (ps_i s' 1131 42).toInt) → (∀ k : Nat, (k : Int) < 22468 ∨ 25748 ≤ (k : Int) → ps_a s' 1134 k = ps_a s0 1134 k) → (1 ≤ (ps_i s' 1131 5).toInt ∨ (ps_i s' 1131 42).toInt = (ps_i s0 1131 42).toInt + 1) → ((ps_i s0 1131 42).toInt ≤ (ps_i s' 1131 42).toInt) → Q none s') (x1 : Int32) (x2 : Int32) (s : ps_S) (J : mJ x t s) (K : kp [1134, 1143, 1144, 1145, 1146, 1147, 1148, 1152, 1153, 1154, 1155, 1156] [5, 6, 7, 8, 9, 10, 11, 23, 29, 30, 31, 32, 42] s0 s) (hS2 : Sg (ps_a s 1135) (ps_a s 1136) (ps_a s 1138) (ps_a s 1139) (ps_i s 1131 22).toInt σ) (hRs : SRs σ (ps_a s 1134) (ps_a s 1152) (ps_a s 1153) ax (n0)) (hFR : ∀ k : Nat, (k : Int) < 22468 ∨ 25748 ≤ (k : Int) → ps_a s 1134 k = ps_a s0 1134 k) (hax : (ps_a s 1137 (Int32.toNatClampNeg (ps_i s 1131 22))).toInt = ax) (i4 : (ps_i s 1131 8).toInt ≤ (ps_i s 1131 4).toInt) (i5 : 0 ≤ x1.toInt) (i6 : x1.toInt < 40) (i7 : 0 ≤ x2.toInt) (i8 : x2.toInt ≤ 18) (i9 : (ps_a s 1152 (Int32.toNatClampNeg x1)).toInt = x2.toInt) (i10 : (ps_i s 1131 42).toInt = x1.toInt) (i11 : x1.toInt = n0) (i12 : (ps_i s 1131 42).toInt = (ps_i s0 1131 42).toInt) (i13 : 1 ≤ (ps_i s 1131 5).toInt ∨ x2.toInt ≠ 1 ∨ (0 ≤ (ps_a s 1153 (Int32.toNatClampNeg x1)).toInt ∧ (ps_a s 1153 (Int32.toNatClampNeg x1)).toInt < ax)) (i14 : 1 ≤ (ps_i s 1131 5).toInt ∨ x2.toInt = 0 ∨ x2.toInt = 15 ∨ 0 ≤ (ps_a s 1153 (Int32.toNatClampNeg x1)).toInt) : ps_At (d + 6) 238 70 [(0, .ref 1131), (1, .int x1), (2, .int x2)] [] s Q := by
  have r1 := mf_8 J
  have r2 := mf_4 J
  have r3 : 0 ≤ (ps_a s 1152 (Int32.toNatClampNeg x1)).toInt ∧ (ps_a s 1152 (Int32.toNatClampNeg x1)).toInt ≤ 18 := ma_1152 (i := x1) J (show 0 ≤ x1.toInt from by omega) (show x1.toInt < 40 from by omega)
  have r4 := mf_42 J
  have r5 := mf_5 J
  have r6 : -1 ≤ (ps_a s 1153 (Int32.toNatClampNeg x1)).toInt ∧ (ps_a s 1153 (Int32.toNatClampNeg x1)).toInt ≤ 9999 := ma_1153 (i := x1) J (show 0 ≤ x1.toInt from by omega) (show x1.toInt < 40 from by omega)
  refine pg_238_70 (d := d + 5) ?_
  have ex : Int32.toNatClampNeg x1 = x1.toInt.toNat := rfl
  refine ms_234 J  (fun v7 p7_0 => ?_)
  have p7_0' : ((x2.toInt = 0 ∨ x2.toInt = 1 ∨ x2.toInt = 15) ∧ v7.toInt = 0) ∨ ((x2.toInt = 3 ∨ x2.toInt = 9 ∨ x2.toInt = 14 ∨ x2.toInt = 16) ∧ v7.toInt = 2) ∨ (x2.toInt = 8 ∧ v7.toInt = 3) ∨ (v7.toInt = 1 ∧ x2.toInt ≠ 0 ∧ x2.toInt ≠ 1 ∧ x2.toInt ≠ 15 ∧ x2.toInt ≠ 3 ∧ x2.toInt ≠ 9 ∧ x2.toInt ≠ 14 ∧ x2.toInt ≠ 16 ∧ x2.toInt ≠ 8) := p7_0
  refine And.intro (fun h8 => ?_) (fun h8 => ?_)
  · have f9 : v7.toInt ≤ (1 : Int) := xle h8
    exact ms_238_88 (σ := σ) (ax := ax) (n0 := n0) k  x1 x2 _ J K hS2 hRs hFR hax (show (ps_i s 1131 8).toInt ≤ (ps_i s 1131 4).toInt from by omega) (show 0 ≤ x1.toInt from by omega) (show x1.toInt < 40 from by omega) (show 0 ≤ x2.toInt from by omega) (show x2.toInt ≤ 18 from by omega) (show (ps_a s 1152 (Int32.toNatClampNeg x1)).toInt = x2.toInt from by omega) (show (ps_i s 1131 42).toInt = x1.toInt from by omega) (show x1.toInt = n0 from by omega) (show (ps_i s 1131 42).toInt = (ps_i s0 1131 42).toInt from by omega) (show 1 ≤ (ps_i s 1131 5).toInt ∨ x2.toInt ≠ 1 ∨ (0 ≤ (ps_a s 1153 (Int32.toNatClampNeg x1)).toInt ∧ (ps_a s 1153 (Int32.toNatClampNeg x1)).toInt < ax) from by omega) (show 1 ≤ (ps_i s 1131 5).toInt ∨ x2.toInt = 0 ∨ x2.toInt = 15 ∨ 0 ≤ (ps_a s 1153 (Int32.toNatClampNeg x1)).toInt from by omega)
  · have f10 : (1 : Int) < v7.toInt := xlt h8
    refine ms_237 J (show (ps_i s 1131 8).toInt ≤ (ps_i s 1131 4).toInt from by omega) (fun v11 s11 J11 K11 p11_0 p11_1 p11_2 p11_3 => ?_)
    have K12 := kpt K K11 rfl rfl
    have KC := K11
    have hS2 : Sg (ps_a s11 1135) (ps_a s11 1136) (ps_a s11 1138) (ps_a s11 1139) (ps_i s11 1131 22).toInt σ := by rw [show ps_a s11 1135 = ps_a s 1135 from (K11.2 1135 rfl).1, show ps_a s11 1136 = ps_a s 1136 from (K11.2 1136 rfl).1, show ps_a s11 1138 = ps_a s 1138 from (K11.2 1138 rfl).1, show ps_a s11 1139 = ps_a s 1139 from (K11.2 1139 rfl).1, show ps_i s11 1131 22 = ps_i s 1131 22 from kp_i K11 22 rfl]; exact hS2
    have hRs : SRs σ (ps_a s11 1134) (ps_a s11 1152) (ps_a s11 1153) ax (n0) := by rw [show ps_a s11 1134 = ps_a s 1134 from (K11.2 1134 rfl).1, show ps_a s11 1152 = ps_a s 1152 from (K11.2 1152 rfl).1, show ps_a s11 1153 = ps_a s 1153 from (K11.2 1153 rfl).1]; exact hRs
    have hFR : ∀ k : Nat, (k : Int) < 22468 ∨ 25748 ≤ (k : Int) → ps_a s11 1134 k = ps_a s0 1134 k := by rw [show ps_a s11 1134 = ps_a s 1134 from (K11.2 1134 rfl).1]; exact hFR
    have hax : (ps_a s11 1137 (Int32.toNatClampNeg (ps_i s11 1131 22))).toInt = ax := by rw [show ps_a s11 1137 = ps_a s 1137 from (K11.2 1137 rfl).1, show ps_i s11 1131 22 = ps_i s 1131 22 from kp_i K11 22 rfl]; exact hax
    have p11_0' : (ps_i s11 1131 8).toInt ≤ (ps_i s11 1131 4).toInt := p11_0
    have r13 := mf_8 J11
    have r14 := mf_4 J11
    have u15 : (ps_i s11 1131 4).toInt = (ps_i s 1131 4).toInt := xeq (kp_i K11 4 rfl)
    have p11_1' : 0 ≤ v11.toInt := p11_1
    have p11_2' : v11.toInt ≤ 9999 := p11_2
    have p11_3' : 1 ≤ (ps_i s 1131 5).toInt → 1 ≤ (ps_i s11 1131 5).toInt := p11_3
    have r16 := mf_5 J11
    refine ps_nd_i (show pm_in x1 40 = true from xgi (show 0 ≤ x1.toInt from by omega) (show x1.toInt < 40 from by omega)) ?_
    have J17 := mwa_1154 (i := (Int32.toNatClampNeg x1)) (v := v11) J11 (show 0 ≤ v11.toInt from by omega) (show v11.toInt ≤ 9999 from by omega)
    have K18 := kpa' K12 (r := 1154) (i := (Int32.toNatClampNeg x1)) (v := v11) rfl
    have r19 : 0 ≤ (ps_a s11 1152 (Int32.toNatClampNeg x1)).toInt ∧ (ps_a s11 1152 (Int32.toNatClampNeg x1)).toInt ≤ 18 := ma_1152 (i := x1) J11 (show 0 ≤ x1.toInt from by omega) (show x1.toInt < 40 from by omega)
    have u20 : (ps_a s11 1152 (Int32.toNatClampNeg x1)).toInt = (ps_a s 1152 (Int32.toNatClampNeg x1)).toInt := xeq (kp_a K11 1152 rfl _)
    have r21 := mf_42 J11
    have u22 : (ps_i s11 1131 42).toInt = (ps_i s 1131 42).toInt := xeq (kp_i K11 42 rfl)
    have r23 : -1 ≤ (ps_a s11 1153 (Int32.toNatClampNeg x1)).toInt ∧ (ps_a s11 1153 (Int32.toNatClampNeg x1)).toInt ≤ 9999 := ma_1153 (i := x1) J11 (show 0 ≤ x1.toInt from by omega) (show x1.toInt < 40 from by omega)
    have u24 : (ps_a s11 1153 (Int32.toNatClampNeg x1)).toInt = (ps_a s 1153 (Int32.toNatClampNeg x1)).toInt := xeq (kp_a K11 1153 rfl _)
    exact ms_238_88 (σ := σ) (ax := ax) (n0 := n0) k  x1 x2 _ J17 K18 hS2 hRs hFR hax (show (ps_i s11 1131 8).toInt ≤ (ps_i s11 1131 4).toInt from by omega) (show 0 ≤ x1.toInt from by omega) (show x1.toInt < 40 from by omega) (show 0 ≤ x2.toInt from by omega) (show x2.toInt ≤ 18 from by omega) (show (ps_a s11 1152 (Int32.toNatClampNeg x1)).toInt = x2.toInt from by omega) (show (ps_i s11 1131 42).toInt = x1.toInt from by omega) (show x1.toInt = n0 from by omega) (show (ps_i s11 1131 42).toInt = (ps_i s0 1131 42).toInt from by omega) (show 1 ≤ (ps_i s11 1131 5).toInt ∨ x2.toInt ≠ 1 ∨ (0 ≤ (ps_a s11 1153 (Int32.toNatClampNeg x1)).toInt ∧ (ps_a s11 1153 (Int32.toNatClampNeg x1)).toInt < ax) from by omega) (show 1 ≤ (ps_i s11 1131 5).toInt ∨ x2.toInt = 0 ∨ x2.toInt = 15 ∨ 0 ≤ (ps_a s11 1153 (Int32.toNatClampNeg x1)).toInt from by omega)

theorem ms_238_53 {x : Nat → Nat → Nat} {t : Int32} {d : Nat} {s0 : ps_S} {σ : mSig} {ax n0 : Int} {Q : Option Value → ps_S → Prop} (k : ∀ (s' : ps_S), mJ x t s' → kp [1134, 1143, 1144, 1145, 1146, 1147, 1148, 1152, 1153, 1154, 1155, 1156] [5, 6, 7, 8, 9, 10, 11, 23, 29, 30, 31, 32, 42] s0 s' → ((ps_i s' 1131 8).toInt ≤ (ps_i s' 1131 4).toInt) → (1 ≤ (ps_i s' 1131 5).toInt ∨ SRs σ (ps_a s' 1134) (ps_a s' 1152) (ps_a s' 1153) ax (ps_i s' 1131 42).toInt) → (∀ k : Nat, (k : Int) < 22468 ∨ 25748 ≤ (k : Int) → ps_a s' 1134 k = ps_a s0 1134 k) → (1 ≤ (ps_i s' 1131 5).toInt ∨ (ps_i s' 1131 42).toInt = (ps_i s0 1131 42).toInt + 1) → ((ps_i s0 1131 42).toInt ≤ (ps_i s' 1131 42).toInt) → Q none s') (x1 : Int32) (x2 : Int32) (s : ps_S) (J : mJ x t s) (K : kp [1134, 1143, 1144, 1145, 1146, 1147, 1148, 1152, 1153, 1154, 1155, 1156] [5, 6, 7, 8, 9, 10, 11, 23, 29, 30, 31, 32, 42] s0 s) (hS2 : Sg (ps_a s 1135) (ps_a s 1136) (ps_a s 1138) (ps_a s 1139) (ps_i s 1131 22).toInt σ) (hRs : SRs σ (ps_a s 1134) (ps_a s 1152) (ps_a s 1153) ax (n0)) (hFR : ∀ k : Nat, (k : Int) < 22468 ∨ 25748 ≤ (k : Int) → ps_a s 1134 k = ps_a s0 1134 k) (hax : (ps_a s 1137 (Int32.toNatClampNeg (ps_i s 1131 22))).toInt = ax) (i4 : (ps_i s 1131 8).toInt ≤ (ps_i s 1131 4).toInt) (i5 : 0 ≤ x1.toInt) (i6 : x1.toInt < 40) (i7 : 0 ≤ x2.toInt) (i8 : x2.toInt ≤ 18) (i9 : (ps_a s 1152 (Int32.toNatClampNeg x1)).toInt = x2.toInt) (i10 : (ps_i s 1131 42).toInt = x1.toInt) (i11 : x1.toInt = n0) (i12 : (ps_i s 1131 42).toInt = (ps_i s0 1131 42).toInt) (i13 : 1 ≤ (ps_i s 1131 5).toInt ∨ x2.toInt ≠ 1 ∨ (0 ≤ (ps_a s 1153 (Int32.toNatClampNeg x1)).toInt ∧ (ps_a s 1153 (Int32.toNatClampNeg x1)).toInt < ax)) : ps_At (d + 6) 238 53 [(0, .ref 1131), (1, .int x1), (2, .int x2)] [] s Q := by
  have r1 := mf_8 J
  have r2 := mf_4 J
  have r3 : 0 ≤ (ps_a s 1152 (Int32.toNatClampNeg x1)).toInt ∧ (ps_a s 1152 (Int32.toNatClampNeg x1)).toInt ≤ 18 := ma_1152 (i := x1) J (show 0 ≤ x1.toInt from by omega) (show x1.toInt < 40 from by omega)
  have r4 := mf_42 J
  have r5 := mf_5 J
  have r6 : -1 ≤ (ps_a s 1153 (Int32.toNatClampNeg x1)).toInt ∧ (ps_a s 1153 (Int32.toNatClampNeg x1)).toInt ≤ 9999 := ma_1153 (i := x1) J (show 0 ≤ x1.toInt from by omega) (show x1.toInt < 40 from by omega)
  refine pg_238_53 (d := d + 5) ?_
  have ex : Int32.toNatClampNeg x1 = x1.toInt.toNat := rfl
  refine ms_234 J  (fun v7 p7_0 => ?_)
  have p7_0' : ((x2.toInt = 0 ∨ x2.toInt = 1 ∨ x2.toInt = 15) ∧ v7.toInt = 0) ∨ ((x2.toInt = 3 ∨ x2.toInt = 9 ∨ x2.toInt = 14 ∨ x2.toInt = 16) ∧ v7.toInt = 2) ∨ (x2.toInt = 8 ∧ v7.toInt = 3) ∨ (v7.toInt = 1 ∧ x2.toInt ≠ 0 ∧ x2.toInt ≠ 1 ∧ x2.toInt ≠ 15 ∧ x2.toInt ≠ 3 ∧ x2.toInt ≠ 9 ∧ x2.toInt ≠ 14 ∧ x2.toInt ≠ 16 ∧ x2.toInt ≠ 8) := p7_0
  refine And.intro (fun h8 => ?_) (fun h8 => ?_)
  · have f9 : v7.toInt ≤ (0 : Int) := xle h8
    exact ms_238_70 (σ := σ) (ax := ax) (n0 := n0) k  x1 x2 _ J K hS2 hRs hFR hax (show (ps_i s 1131 8).toInt ≤ (ps_i s 1131 4).toInt from by omega) (show 0 ≤ x1.toInt from by omega) (show x1.toInt < 40 from by omega) (show 0 ≤ x2.toInt from by omega) (show x2.toInt ≤ 18 from by omega) (show (ps_a s 1152 (Int32.toNatClampNeg x1)).toInt = x2.toInt from by omega) (show (ps_i s 1131 42).toInt = x1.toInt from by omega) (show x1.toInt = n0 from by omega) (show (ps_i s 1131 42).toInt = (ps_i s0 1131 42).toInt from by omega) (show 1 ≤ (ps_i s 1131 5).toInt ∨ x2.toInt ≠ 1 ∨ (0 ≤ (ps_a s 1153 (Int32.toNatClampNeg x1)).toInt ∧ (ps_a s 1153 (Int32.toNatClampNeg x1)).toInt < ax) from by omega) (show 1 ≤ (ps_i s 1131 5).toInt ∨ x2.toInt = 0 ∨ x2.toInt = 15 ∨ 0 ≤ (ps_a s 1153 (Int32.toNatClampNeg x1)).toInt from by omega)
  · have f10 : (0 : Int) < v7.toInt := xlt h8
    refine ms_237 J (show (ps_i s 1131 8).toInt ≤ (ps_i s 1131 4).toInt from by omega) (fun v11 s11 J11 K11 p11_0 p11_1 p11_2 p11_3 => ?_)
    have K12 := kpt K K11 rfl rfl
    have KC := K11
    have hS2 : Sg (ps_a s11 1135) (ps_a s11 1136) (ps_a s11 1138) (ps_a s11 1139) (ps_i s11 1131 22).toInt σ := by rw [show ps_a s11 1135 = ps_a s 1135 from (K11.2 1135 rfl).1, show ps_a s11 1136 = ps_a s 1136 from (K11.2 1136 rfl).1, show ps_a s11 1138 = ps_a s 1138 from (K11.2 1138 rfl).1, show ps_a s11 1139 = ps_a s 1139 from (K11.2 1139 rfl).1, show ps_i s11 1131 22 = ps_i s 1131 22 from kp_i K11 22 rfl]; exact hS2
    have hRs : SRs σ (ps_a s11 1134) (ps_a s11 1152) (ps_a s11 1153) ax (n0) := by rw [show ps_a s11 1134 = ps_a s 1134 from (K11.2 1134 rfl).1, show ps_a s11 1152 = ps_a s 1152 from (K11.2 1152 rfl).1, show ps_a s11 1153 = ps_a s 1153 from (K11.2 1153 rfl).1]; exact hRs
    have hFR : ∀ k : Nat, (k : Int) < 22468 ∨ 25748 ≤ (k : Int) → ps_a s11 1134 k = ps_a s0 1134 k := by rw [show ps_a s11 1134 = ps_a s 1134 from (K11.2 1134 rfl).1]; exact hFR
    have hax : (ps_a s11 1137 (Int32.toNatClampNeg (ps_i s11 1131 22))).toInt = ax := by rw [show ps_a s11 1137 = ps_a s 1137 from (K11.2 1137 rfl).1, show ps_i s11 1131 22 = ps_i s 1131 22 from kp_i K11 22 rfl]; exact hax
    have p11_0' : (ps_i s11 1131 8).toInt ≤ (ps_i s11 1131 4).toInt := p11_0
    have r13 := mf_8 J11
    have r14 := mf_4 J11
    have u15 : (ps_i s11 1131 4).toInt = (ps_i s 1131 4).toInt := xeq (kp_i K11 4 rfl)
    have p11_1' : 0 ≤ v11.toInt := p11_1
    have p11_2' : v11.toInt ≤ 9999 := p11_2
    have p11_3' : 1 ≤ (ps_i s 1131 5).toInt → 1 ≤ (ps_i s11 1131 5).toInt := p11_3
    have r16 := mf_5 J11
    refine ps_nd_i (show pm_in x1 40 = true from xgi (show 0 ≤ x1.toInt from by omega) (show x1.toInt < 40 from by omega)) ?_
    have J17 := mwa_1153 (i := (Int32.toNatClampNeg x1)) (v := v11) J11 (show -1 ≤ v11.toInt from by omega) (show v11.toInt ≤ 9999 from by omega)
    have K18 := kpa' K12 (r := 1153) (i := (Int32.toNatClampNeg x1)) (v := v11) rfl
    have r19 : 0 ≤ (ps_a s11 1152 (Int32.toNatClampNeg x1)).toInt ∧ (ps_a s11 1152 (Int32.toNatClampNeg x1)).toInt ≤ 18 := ma_1152 (i := x1) J11 (show 0 ≤ x1.toInt from by omega) (show x1.toInt < 40 from by omega)
    have u20 : (ps_a s11 1152 (Int32.toNatClampNeg x1)).toInt = (ps_a s 1152 (Int32.toNatClampNeg x1)).toInt := xeq (kp_a K11 1152 rfl _)
    have r21 := mf_42 J11
    have u22 : (ps_i s11 1131 42).toInt = (ps_i s 1131 42).toInt := xeq (kp_i K11 42 rfl)
    have w23 : (ps_a (ps_ua s11 1153 (Int32.toNatClampNeg x1) v11) 1153 (Int32.toNatClampNeg x1)).toInt = v11.toInt := xeq ua_eq
    have r24 : -1 ≤ (ps_a (ps_ua s11 1153 (Int32.toNatClampNeg x1) v11) 1153 (Int32.toNatClampNeg x1)).toInt ∧ (ps_a (ps_ua s11 1153 (Int32.toNatClampNeg x1) v11) 1153 (Int32.toNatClampNeg x1)).toInt ≤ 9999 := ma_1153 (i := x1) J17 (show 0 ≤ x1.toInt from by omega) (show x1.toInt < 40 from by omega)
    exact ms_238_70 (σ := σ) (ax := ax) (n0 := n0) k  x1 x2 _ J17 K18 hS2 (SRs_set (i := Int32.toNatClampNeg x1) hRs (fun _ _ => rfl) (fun j hj => ua_ne hj) (by omega)) hFR hax (show (ps_i s11 1131 8).toInt ≤ (ps_i s11 1131 4).toInt from by omega) (show 0 ≤ x1.toInt from by omega) (show x1.toInt < 40 from by omega) (show 0 ≤ x2.toInt from by omega) (show x2.toInt ≤ 18 from by omega) (show (ps_a s11 1152 (Int32.toNatClampNeg x1)).toInt = x2.toInt from by omega) (show (ps_i s11 1131 42).toInt = x1.toInt from by omega) (show x1.toInt = n0 from by omega) (show (ps_i s11 1131 42).toInt = (ps_i s0 1131 42).toInt from by omega) (show 1 ≤ (ps_i s11 1131 5).toInt ∨ x2.toInt ≠ 1 ∨ (0 ≤ (ps_a (ps_ua s11 1153 (Int32.toNatClampNeg x1) v11) 1153 (Int32.toNatClampNeg x1)).toInt ∧ (ps_a (ps_ua s11 1153 (Int32.toNatClampNeg x1) v11) 1153 (Int32.toNatClampNeg x1)).toInt < ax) from by omega) (show 1 ≤ (ps_i s11 1131 5).toInt ∨ x2.toInt = 0 ∨ x2.toInt = 15 ∨ 0 ≤ (ps_a (ps_ua s11 1153 (Int32.toNatClampNeg x1) v11) 1153 (Int32.toNatClampNeg x1)).toInt from by omega)

theorem ms_238_24 {x : Nat → Nat → Nat} {t : Int32} {d : Nat} {s0 : ps_S} {σ : mSig} {ax n0 : Int} {Q : Option Value → ps_S → Prop} (k : ∀ (s' : ps_S), mJ x t s' → kp [1134, 1143, 1144, 1145, 1146, 1147, 1148, 1152, 1153, 1154, 1155, 1156] [5, 6, 7, 8, 9, 10, 11, 23, 29, 30, 31, 32, 42] s0 s' → ((ps_i s' 1131 8).toInt ≤ (ps_i s' 1131 4).toInt) → (1 ≤ (ps_i s' 1131 5).toInt ∨ SRs σ (ps_a s' 1134) (ps_a s' 1152) (ps_a s' 1153) ax (ps_i s' 1131 42).toInt) → (∀ k : Nat, (k : Int) < 22468 ∨ 25748 ≤ (k : Int) → ps_a s' 1134 k = ps_a s0 1134 k) → (1 ≤ (ps_i s' 1131 5).toInt ∨ (ps_i s' 1131 42).toInt = (ps_i s0 1131 42).toInt + 1) → ((ps_i s0 1131 42).toInt ≤ (ps_i s' 1131 42).toInt) → Q none s') (x1 : Int32) (x2 : Int32) (s : ps_S) (J : mJ x t s) (K : kp [1134, 1143, 1144, 1145, 1146, 1147, 1148, 1152, 1153, 1154, 1155, 1156] [5, 6, 7, 8, 9, 10, 11, 23, 29, 30, 31, 32, 42] s0 s) (hS2 : Sg (ps_a s 1135) (ps_a s 1136) (ps_a s 1138) (ps_a s 1139) (ps_i s 1131 22).toInt σ) (hRs : SRs σ (ps_a s 1134) (ps_a s 1152) (ps_a s 1153) ax (n0)) (hFR : ∀ k : Nat, (k : Int) < 22468 ∨ 25748 ≤ (k : Int) → ps_a s 1134 k = ps_a s0 1134 k) (hax : (ps_a s 1137 (Int32.toNatClampNeg (ps_i s 1131 22))).toInt = ax) (i4 : (ps_i s 1131 8).toInt ≤ (ps_i s 1131 4).toInt) (i5 : (ps_i s 1131 42).toInt = x1.toInt) (i6 : x1.toInt = n0) (i7 : (ps_i s 1131 42).toInt = (ps_i s0 1131 42).toInt) (i8 : -1 ≤ x2.toInt) (i9 : x2.toInt ≤ 18) (i10 : 1 ≤ (ps_i s 1131 5).toInt ∨ (0 ≤ x2.toInt ∧ x1.toInt < 40)) : ps_At (d + 6) 238 24 [(0, .ref 1131), (1, .int x1), (2, .int x2)] [] s Q := by
  have r1 := mf_8 J
  have r2 := mf_4 J
  have r3 := mf_42 J
  have r4 := mf_5 J
  refine pg_238_24 (d := d + 5) ?_
  have ex : Int32.toNatClampNeg x1 = x1.toInt.toNat := rfl
  refine ms_192 J  (fun v5 p5_0 b5 => ?_)
  have p5_0' : (v5.toInt = 0 ∧ 1 ≤ (ps_i s 1131 5).toInt) ∨ (v5.toInt = 1 ∧ (ps_i s 1131 5).toInt = 0) := p5_0
  refine And.intro (fun h6 => ?_) (fun h6 => ?_)
  · have f7 : v5.toInt ≠ (0 : Int) := xne h6
    have qz7 : (ps_i s 1131 5).toInt = 0 := by omega
    clear p5_0' p5_0
    refine ms_194 J (show (ps_i s 1131 8).toInt ≤ (ps_i s 1131 4).toInt from by omega) (fun s8 J8 K8 p8_0 => ?_)
    have K9 := kpt K K8 rfl rfl
    have KC := K8
    have hS2 : Sg (ps_a s8 1135) (ps_a s8 1136) (ps_a s8 1138) (ps_a s8 1139) (ps_i s8 1131 22).toInt σ := by rw [show ps_a s8 1135 = ps_a s 1135 from (K8.2 1135 rfl).1, show ps_a s8 1136 = ps_a s 1136 from (K8.2 1136 rfl).1, show ps_a s8 1138 = ps_a s 1138 from (K8.2 1138 rfl).1, show ps_a s8 1139 = ps_a s 1139 from (K8.2 1139 rfl).1, show ps_i s8 1131 22 = ps_i s 1131 22 from kp_i K8 22 rfl]; exact hS2
    have hRs : SRs σ (ps_a s8 1134) (ps_a s8 1152) (ps_a s8 1153) ax (n0) := by rw [show ps_a s8 1134 = ps_a s 1134 from (K8.2 1134 rfl).1, show ps_a s8 1152 = ps_a s 1152 from (K8.2 1152 rfl).1, show ps_a s8 1153 = ps_a s 1153 from (K8.2 1153 rfl).1]; exact hRs
    have hFR : ∀ k : Nat, (k : Int) < 22468 ∨ 25748 ≤ (k : Int) → ps_a s8 1134 k = ps_a s0 1134 k := by rw [show ps_a s8 1134 = ps_a s 1134 from (K8.2 1134 rfl).1]; exact hFR
    have hax : (ps_a s8 1137 (Int32.toNatClampNeg (ps_i s8 1131 22))).toInt = ax := by rw [show ps_a s8 1137 = ps_a s 1137 from (K8.2 1137 rfl).1, show ps_i s8 1131 22 = ps_i s 1131 22 from kp_i K8 22 rfl]; exact hax
    have p8_0' : (ps_i s8 1131 8).toInt ≤ (ps_i s8 1131 4).toInt := p8_0
    have r10 := mf_8 J8
    have r11 := mf_4 J8
    have u12 : (ps_i s8 1131 4).toInt = (ps_i s 1131 4).toInt := xeq (kp_i K8 4 rfl)
    refine ps_nd_i (show pm_in x1 40 = true from xgi (show 0 ≤ x1.toInt from by omega) (show x1.toInt < 40 from by omega)) ?_
    have J13 := mwa_1152 (i := (Int32.toNatClampNeg x1)) (v := x2) J8 (show 0 ≤ x2.toInt from by omega) (show x2.toInt ≤ 18 from by omega)
    have K14 := kpa' K9 (r := 1152) (i := (Int32.toNatClampNeg x1)) (v := x2) rfl
    have hRs : SRs σ (ps_a (ps_ua s8 1152 (Int32.toNatClampNeg x1) x2) 1134) (ps_a (ps_ua s8 1152 (Int32.toNatClampNeg x1) x2) 1152) (ps_a (ps_ua s8 1152 (Int32.toNatClampNeg x1) x2) 1153) ax (n0) := SRs_set (i := Int32.toNatClampNeg x1) hRs (fun j hj => ua_ne hj) (fun _ _ => rfl) (by omega)
    refine And.intro (fun h15 => ?_) (fun h15 => ?_)
    · have f16 : x2.toInt ≠ (1 : Int) := xne h15
      have w17 : (ps_a (ps_ua s8 1152 (Int32.toNatClampNeg x1) x2) 1152 (Int32.toNatClampNeg x1)).toInt = x2.toInt := xeq ua_eq
      have r18 : 0 ≤ (ps_a (ps_ua s8 1152 (Int32.toNatClampNeg x1) x2) 1152 (Int32.toNatClampNeg x1)).toInt ∧ (ps_a (ps_ua s8 1152 (Int32.toNatClampNeg x1) x2) 1152 (Int32.toNatClampNeg x1)).toInt ≤ 18 := ma_1152 (i := x1) J13 (show 0 ≤ x1.toInt from by omega) (show x1.toInt < 40 from by omega)
      have r19 := mf_42 J8
      have u20 : (ps_i s8 1131 42).toInt = (ps_i s 1131 42).toInt := xeq (kp_i K8 42 rfl)
      have r21 := mf_5 J8
      have u22 : (ps_i s8 1131 5).toInt = (ps_i s 1131 5).toInt := xeq (kp_i K8 5 rfl)
      have r23 : -1 ≤ (ps_a s8 1153 (Int32.toNatClampNeg x1)).toInt ∧ (ps_a s8 1153 (Int32.toNatClampNeg x1)).toInt ≤ 9999 := ma_1153 (i := x1) J8 (show 0 ≤ x1.toInt from by omega) (show x1.toInt < 40 from by omega)
      have u24 : (ps_a s8 1153 (Int32.toNatClampNeg x1)).toInt = (ps_a s 1153 (Int32.toNatClampNeg x1)).toInt := xeq (kp_a K8 1153 rfl _)
      have r25 : -1 ≤ (ps_a s 1153 (Int32.toNatClampNeg x1)).toInt ∧ (ps_a s 1153 (Int32.toNatClampNeg x1)).toInt ≤ 9999 := ma_1153 (i := x1) J (show 0 ≤ x1.toInt from by omega) (show x1.toInt < 40 from by omega)
      exact ms_238_53 (σ := σ) (ax := ax) (n0 := n0) k  x1 x2 _ J13 K14 hS2 hRs hFR hax (show (ps_i s8 1131 8).toInt ≤ (ps_i s8 1131 4).toInt from by omega) (show 0 ≤ x1.toInt from by omega) (show x1.toInt < 40 from by omega) (show 0 ≤ x2.toInt from by omega) (show x2.toInt ≤ 18 from by omega) (show (ps_a (ps_ua s8 1152 (Int32.toNatClampNeg x1) x2) 1152 (Int32.toNatClampNeg x1)).toInt = x2.toInt from by omega) (show (ps_i s8 1131 42).toInt = x1.toInt from by omega) (show x1.toInt = n0 from by omega) (show (ps_i s8 1131 42).toInt = (ps_i s0 1131 42).toInt from by omega) (show 1 ≤ (ps_i s8 1131 5).toInt ∨ x2.toInt ≠ 1 ∨ (0 ≤ (ps_a s8 1153 (Int32.toNatClampNeg x1)).toInt ∧ (ps_a s8 1153 (Int32.toNatClampNeg x1)).toInt < ax) from by omega)
    · have f26 : x2.toInt = (1 : Int) := xeq h15
      have r27 := mf_5 J8
      have u28 : (ps_i s8 1131 5).toInt = (ps_i s 1131 5).toInt := xeq (kp_i K8 5 rfl)
      refine ms_239 J13 (show (ps_i s8 1131 8).toInt ≤ (ps_i s8 1131 4).toInt from by omega) (show 0 ≤ x1.toInt from by omega) (show x1.toInt < 40 from by omega) (show (ps_i s8 1131 5).toInt = 0 from by omega) (fun s29 J29 K29 p29_0 p29_1 p29_2 => ?_)
      have K30 := kpt K14 K29 rfl rfl
      have KC := K29
      have hS2 : Sg (ps_a s29 1135) (ps_a s29 1136) (ps_a s29 1138) (ps_a s29 1139) (ps_i s29 1131 22).toInt σ := by rw [show ps_a s29 1135 = ps_a (ps_ua s8 1152 (Int32.toNatClampNeg x1) x2) 1135 from (K29.2 1135 rfl).1, show ps_a s29 1136 = ps_a (ps_ua s8 1152 (Int32.toNatClampNeg x1) x2) 1136 from (K29.2 1136 rfl).1, show ps_a s29 1138 = ps_a (ps_ua s8 1152 (Int32.toNatClampNeg x1) x2) 1138 from (K29.2 1138 rfl).1, show ps_a s29 1139 = ps_a (ps_ua s8 1152 (Int32.toNatClampNeg x1) x2) 1139 from (K29.2 1139 rfl).1, show ps_i s29 1131 22 = ps_i (ps_ua s8 1152 (Int32.toNatClampNeg x1) x2) 1131 22 from kp_i K29 22 rfl]; exact hS2
      have hFR : ∀ k : Nat, (k : Int) < 22468 ∨ 25748 ≤ (k : Int) → ps_a s29 1134 k = ps_a s0 1134 k := by rw [show ps_a s29 1134 = ps_a (ps_ua s8 1152 (Int32.toNatClampNeg x1) x2) 1134 from (K29.2 1134 rfl).1]; exact hFR
      have hax : (ps_a s29 1137 (Int32.toNatClampNeg (ps_i s29 1131 22))).toInt = ax := by rw [show ps_a s29 1137 = ps_a (ps_ua s8 1152 (Int32.toNatClampNeg x1) x2) 1137 from (K29.2 1137 rfl).1, show ps_i s29 1131 22 = ps_i (ps_ua s8 1152 (Int32.toNatClampNeg x1) x2) 1131 22 from kp_i K29 22 rfl]; exact hax
      have p29_0' : (ps_i s29 1131 8).toInt ≤ (ps_i s29 1131 4).toInt := p29_0
      have r31 := mf_8 J29
      have r32 := mf_4 J29
      have u33 : (ps_i s29 1131 4).toInt = (ps_i s8 1131 4).toInt := xeq (kp_i K29 4 rfl)
      have p29_1' : 1 ≤ (ps_i s29 1131 5).toInt ∨ (0 ≤ (ps_a s29 1153 (Int32.toNatClampNeg x1)).toInt ∧ (ps_a s29 1153 (Int32.toNatClampNeg x1)).toInt < (ps_a s29 1137 (Int32.toNatClampNeg (ps_i s29 1131 22))).toInt) := p29_1
      have r34 := mf_5 J29
      have r35 : -1 ≤ (ps_a s29 1153 (Int32.toNatClampNeg x1)).toInt ∧ (ps_a s29 1153 (Int32.toNatClampNeg x1)).toInt ≤ 9999 := ma_1153 (i := x1) J29 (show 0 ≤ x1.toInt from by omega) (show x1.toInt < 40 from by omega)
      have r36 := mf_22 J29
      have u37 : (ps_i s29 1131 22).toInt = (ps_i s8 1131 22).toInt := xeq (kp_i K29 22 rfl)
      have r38 := mf_22 J8
      have u39 : (ps_i s8 1131 22).toInt = (ps_i s 1131 22).toInt := xeq (kp_i K8 22 rfl)
      have r40 := mf_22 J
      have r41 : 0 ≤ (ps_a s29 1137 (Int32.toNatClampNeg (ps_i s29 1131 22))).toInt ∧ (ps_a s29 1137 (Int32.toNatClampNeg (ps_i s29 1131 22))).toInt ≤ 8 := ma_1137 (i := (ps_i s29 1131 22)) J29 (show 0 ≤ (ps_i s29 1131 22).toInt from by omega) (show (ps_i s29 1131 22).toInt < 2 from by omega)
      have u42 : (ps_a s29 1137 (Int32.toNatClampNeg (ps_i s29 1131 22))).toInt = (ps_a s8 1137 (Int32.toNatClampNeg (ps_i s29 1131 22))).toInt := xeq (kp_a K29 1137 rfl _)
      have r43 : 0 ≤ (ps_a s8 1137 (Int32.toNatClampNeg (ps_i s29 1131 22))).toInt ∧ (ps_a s8 1137 (Int32.toNatClampNeg (ps_i s29 1131 22))).toInt ≤ 8 := ma_1137 (i := (ps_i s29 1131 22)) J8 (show 0 ≤ (ps_i s29 1131 22).toInt from by omega) (show (ps_i s29 1131 22).toInt < 2 from by omega)
      have u44 : (ps_a s8 1137 (Int32.toNatClampNeg (ps_i s29 1131 22))).toInt = (ps_a s 1137 (Int32.toNatClampNeg (ps_i s29 1131 22))).toInt := xeq (kp_a K8 1137 rfl _)
      have r45 : 0 ≤ (ps_a s 1137 (Int32.toNatClampNeg (ps_i s29 1131 22))).toInt ∧ (ps_a s 1137 (Int32.toNatClampNeg (ps_i s29 1131 22))).toInt ≤ 8 := ma_1137 (i := (ps_i s29 1131 22)) J (show 0 ≤ (ps_i s29 1131 22).toInt from by omega) (show (ps_i s29 1131 22).toInt < 2 from by omega)
      have hk3 : _ := p29_2
      have r46 : 0 ≤ (ps_a s29 1152 (Int32.toNatClampNeg x1)).toInt ∧ (ps_a s29 1152 (Int32.toNatClampNeg x1)).toInt ≤ 18 := ma_1152 (i := x1) J29 (show 0 ≤ x1.toInt from by omega) (show x1.toInt < 40 from by omega)
      have u47 : (ps_a s29 1152 (Int32.toNatClampNeg x1)).toInt = (ps_a (ps_ua s8 1152 (Int32.toNatClampNeg x1) x2) 1152 (Int32.toNatClampNeg x1)).toInt := xeq (kp_a K29 1152 rfl _)
      have w48 : (ps_a (ps_ua s8 1152 (Int32.toNatClampNeg x1) x2) 1152 (Int32.toNatClampNeg x1)).toInt = x2.toInt := xeq ua_eq
      have r49 := mf_42 J29
      have u50 : (ps_i s29 1131 42).toInt = (ps_i s8 1131 42).toInt := xeq (kp_i K29 42 rfl)
      have r51 := mf_42 J8
      have u52 : (ps_i s8 1131 42).toInt = (ps_i s 1131 42).toInt := xeq (kp_i K8 42 rfl)
      exact ms_238_53 (σ := σ) (ax := ax) (n0 := n0) k  x1 x2 _ J29 K30 hS2 ((by rw [show ps_a s29 1134 = ps_a (ps_ua s8 1152 (Int32.toNatClampNeg x1) x2) 1134 from (KC.2 1134 rfl).1, show ps_a s29 1152 = ps_a (ps_ua s8 1152 (Int32.toNatClampNeg x1) x2) 1152 from (KC.2 1152 rfl).1]; exact SRs_set (i := Int32.toNatClampNeg x1) hRs (fun _ _ => rfl) (fun j hj => hk3 j hj) (by omega))) hFR hax (show (ps_i s29 1131 8).toInt ≤ (ps_i s29 1131 4).toInt from by omega) (show 0 ≤ x1.toInt from by omega) (show x1.toInt < 40 from by omega) (show 0 ≤ x2.toInt from by omega) (show x2.toInt ≤ 18 from by omega) (show (ps_a s29 1152 (Int32.toNatClampNeg x1)).toInt = x2.toInt from by omega) (show (ps_i s29 1131 42).toInt = x1.toInt from by omega) (show x1.toInt = n0 from by omega) (show (ps_i s29 1131 42).toInt = (ps_i s0 1131 42).toInt from by omega) (show 1 ≤ (ps_i s29 1131 5).toInt ∨ x2.toInt ≠ 1 ∨ (0 ≤ (ps_a s29 1153 (Int32.toNatClampNeg x1)).toInt ∧ (ps_a s29 1153 (Int32.toNatClampNeg x1)).toInt < ax) from by omega)
  · have f53 : v5.toInt = (0 : Int) := xeq h6
    have qz53 : 1 ≤ (ps_i s 1131 5).toInt := by omega
    clear p5_0' p5_0
    exact k _ J K (show (ps_i s 1131 8).toInt ≤ (ps_i s 1131 4).toInt from by omega) (Or.inl (show 1 ≤ (ps_i s 1131 5).toInt from by omega)) (hFR) (show 1 ≤ (ps_i s 1131 5).toInt ∨ (ps_i s 1131 42).toInt = (ps_i s0 1131 42).toInt + 1 from by omega) (show (ps_i s0 1131 42).toInt ≤ (ps_i s 1131 42).toInt from by omega)

theorem ms_238_20 {x : Nat → Nat → Nat} {t : Int32} {d : Nat} {s0 : ps_S} {σ : mSig} {ax n0 : Int} {Q : Option Value → ps_S → Prop} (k : ∀ (s' : ps_S), mJ x t s' → kp [1134, 1143, 1144, 1145, 1146, 1147, 1148, 1152, 1153, 1154, 1155, 1156] [5, 6, 7, 8, 9, 10, 11, 23, 29, 30, 31, 32, 42] s0 s' → ((ps_i s' 1131 8).toInt ≤ (ps_i s' 1131 4).toInt) → (1 ≤ (ps_i s' 1131 5).toInt ∨ SRs σ (ps_a s' 1134) (ps_a s' 1152) (ps_a s' 1153) ax (ps_i s' 1131 42).toInt) → (∀ k : Nat, (k : Int) < 22468 ∨ 25748 ≤ (k : Int) → ps_a s' 1134 k = ps_a s0 1134 k) → (1 ≤ (ps_i s' 1131 5).toInt ∨ (ps_i s' 1131 42).toInt = (ps_i s0 1131 42).toInt + 1) → ((ps_i s0 1131 42).toInt ≤ (ps_i s' 1131 42).toInt) → Q none s') (x1 : Int32) (x2 : Int32) (s : ps_S) (J : mJ x t s) (K : kp [1134, 1143, 1144, 1145, 1146, 1147, 1148, 1152, 1153, 1154, 1155, 1156] [5, 6, 7, 8, 9, 10, 11, 23, 29, 30, 31, 32, 42] s0 s) (hS2 : Sg (ps_a s 1135) (ps_a s 1136) (ps_a s 1138) (ps_a s 1139) (ps_i s 1131 22).toInt σ) (hRs : SRs σ (ps_a s 1134) (ps_a s 1152) (ps_a s 1153) ax (n0)) (hFR : ∀ k : Nat, (k : Int) < 22468 ∨ 25748 ≤ (k : Int) → ps_a s 1134 k = ps_a s0 1134 k) (hax : (ps_a s 1137 (Int32.toNatClampNeg (ps_i s 1131 22))).toInt = ax) (i4 : (ps_i s 1131 8).toInt ≤ (ps_i s 1131 4).toInt) (i5 : (ps_i s 1131 5).toInt = 0) (i6 : (ps_i s 1131 42).toInt = x1.toInt) (i7 : x1.toInt = n0) (i8 : (ps_i s 1131 42).toInt = (ps_i s0 1131 42).toInt) (i9 : -1 ≤ x2.toInt) (i10 : x2.toInt ≤ 18) (i11 : x2.toInt < 0 ∨ x1.toInt = 40) : ps_At (d + 6) 238 20 [(0, .ref 1131), (1, .int x1), (2, .int x2)] [] s Q := by
  have r1 := mf_8 J
  have r2 := mf_4 J
  have r3 := mf_5 J
  have r4 := mf_42 J
  refine pg_238_20 (d := d + 5) ?_
  refine ms_196 J  (fun s5 J5 K5 p5_0 => ?_)
  have K6 := kpt K K5 rfl rfl
  have KC := K5
  have hS2 : Sg (ps_a s5 1135) (ps_a s5 1136) (ps_a s5 1138) (ps_a s5 1139) (ps_i s5 1131 22).toInt σ := by rw [show ps_a s5 1135 = ps_a s 1135 from (K5.2 1135 rfl).1, show ps_a s5 1136 = ps_a s 1136 from (K5.2 1136 rfl).1, show ps_a s5 1138 = ps_a s 1138 from (K5.2 1138 rfl).1, show ps_a s5 1139 = ps_a s 1139 from (K5.2 1139 rfl).1, show ps_i s5 1131 22 = ps_i s 1131 22 from kp_i K5 22 rfl]; exact hS2
  have hRs : SRs σ (ps_a s5 1134) (ps_a s5 1152) (ps_a s5 1153) ax (n0) := by rw [show ps_a s5 1134 = ps_a s 1134 from (K5.2 1134 rfl).1, show ps_a s5 1152 = ps_a s 1152 from (K5.2 1152 rfl).1, show ps_a s5 1153 = ps_a s 1153 from (K5.2 1153 rfl).1]; exact hRs
  have hFR : ∀ k : Nat, (k : Int) < 22468 ∨ 25748 ≤ (k : Int) → ps_a s5 1134 k = ps_a s0 1134 k := by rw [show ps_a s5 1134 = ps_a s 1134 from (K5.2 1134 rfl).1]; exact hFR
  have hax : (ps_a s5 1137 (Int32.toNatClampNeg (ps_i s5 1131 22))).toInt = ax := by rw [show ps_a s5 1137 = ps_a s 1137 from (K5.2 1137 rfl).1, show ps_i s5 1131 22 = ps_i s 1131 22 from kp_i K5 22 rfl]; exact hax
  have p5_0' : 1 ≤ (ps_i s5 1131 5).toInt := p5_0
  have r7 := mf_5 J5
  have r8 := mf_8 J5
  have u9 : (ps_i s5 1131 8).toInt = (ps_i s 1131 8).toInt := xeq (kp_i K5 8 rfl)
  have r10 := mf_4 J5
  have u11 : (ps_i s5 1131 4).toInt = (ps_i s 1131 4).toInt := xeq (kp_i K5 4 rfl)
  have r12 := mf_42 J5
  have u13 : (ps_i s5 1131 42).toInt = (ps_i s 1131 42).toInt := xeq (kp_i K5 42 rfl)
  exact ms_238_24 (σ := σ) (ax := ax) (n0 := n0) k  x1 x2 _ J5 K6 hS2 hRs hFR hax (show (ps_i s5 1131 8).toInt ≤ (ps_i s5 1131 4).toInt from by omega) (show (ps_i s5 1131 42).toInt = x1.toInt from by omega) (show x1.toInt = n0 from by omega) (show (ps_i s5 1131 42).toInt = (ps_i s0 1131 42).toInt from by omega) (show -1 ≤ x2.toInt from by omega) (show x2.toInt ≤ 18 from by omega) (show 1 ≤ (ps_i s5 1131 5).toInt ∨ (0 ≤ x2.toInt ∧ x1.toInt < 40) from by omega)

theorem ms_238 {x : Nat → Nat → Nat} {t : Int32} {s : ps_S} {d : Nat} {f : ps_S → Prop} (J : mJ x t s) {σ : mSig} {ax n0 : Int} (hS2 : Sg (ps_a s 1135) (ps_a s 1136) (ps_a s 1138) (ps_a s 1139) (ps_i s 1131 22).toInt σ) (hRs : SRs σ (ps_a s 1134) (ps_a s 1152) (ps_a s 1153) ax (n0)) (hax : (ps_a s 1137 (Int32.toNatClampNeg (ps_i s 1131 22))).toInt = ax) (q3 : (ps_i s 1131 8).toInt ≤ (ps_i s 1131 4).toInt) (q4 : (ps_i s 1131 5).toInt = 0) (q5 : (ps_i s 1131 42).toInt = n0) (k : ∀ (s' : ps_S), mJ x t s' → kp [1134, 1143, 1144, 1145, 1146, 1147, 1148, 1152, 1153, 1154, 1155, 1156] [5, 6, 7, 8, 9, 10, 11, 23, 29, 30, 31, 32, 42] s s' → ((ps_i s' 1131 8).toInt ≤ (ps_i s' 1131 4).toInt) → (1 ≤ (ps_i s' 1131 5).toInt ∨ SRs σ (ps_a s' 1134) (ps_a s' 1152) (ps_a s' 1153) ax (ps_i s' 1131 42).toInt) → (∀ k : Nat, (k : Int) < 22468 ∨ 25748 ≤ (k : Int) → ps_a s' 1134 k = ps_a s 1134 k) → (1 ≤ (ps_i s' 1131 5).toInt ∨ (ps_i s' 1131 42).toInt = (ps_i s 1131 42).toInt + 1) → ((ps_i s 1131 42).toInt ≤ (ps_i s' 1131 42).toInt) → f s') : ps_Cl (d + 6) 238 [.ref 1131] s (ps_rV f) := by
  have r1 := mf_8 J
  have r2 := mf_4 J
  have r3 := mf_5 J
  have K : kp [1134, 1143, 1144, 1145, 1146, 1147, 1148, 1152, 1153, 1154, 1155, 1156] [5, 6, 7, 8, 9, 10, 11, 23, 29, 30, 31, 32, 42] s s := kp_refl
  refine pg_238_0 (d := d + 5) ?_
  have hFR : ∀ k : Nat, (k : Int) < 22468 ∨ 25748 ≤ (k : Int) → ps_a s 1134 k = ps_a s 1134 k := fun _ _ => rfl
  have r4 := mf_42 J
  refine ms_233 J  (fun v5 p5_0 p5_1 p5_2 => ?_)
  have p5_0' : -1 ≤ v5.toInt := p5_0
  have p5_1' : v5.toInt ≤ 18 := p5_1
  have p5_2' : v5.toInt = -1 ∨ (ps_i s 1131 9).toInt = 3 := p5_2
  have r6 := mf_9 J
  refine And.intro (fun h7 => ?_) (fun h7 => ?_)
  · have f8 : v5.toInt < (0 : Int) := xlt h7
    exact ms_238_20 (σ := σ) (ax := ax) (n0 := n0) k  (ps_i s 1131 42) v5 _ J K hS2 hRs hFR hax (show (ps_i s 1131 8).toInt ≤ (ps_i s 1131 4).toInt from by omega) (show (ps_i s 1131 5).toInt = 0 from by omega) (show (ps_i s 1131 42).toInt = (ps_i s 1131 42).toInt from by omega) (show (ps_i s 1131 42).toInt = n0 from by omega) (show (ps_i s 1131 42).toInt = (ps_i s 1131 42).toInt from by omega) (show -1 ≤ v5.toInt from by omega) (show v5.toInt ≤ 18 from by omega) (show v5.toInt < 0 ∨ (ps_i s 1131 42).toInt = 40 from by omega)
  · have f9 : (0 : Int) ≤ v5.toInt := xle h7
    refine And.intro (fun h10 => ?_) (fun h10 => ?_)
    · have f11 : (ps_i s 1131 42).toInt ≠ (40 : Int) := xne h10
      exact ms_238_24 (σ := σ) (ax := ax) (n0 := n0) k  (ps_i s 1131 42) v5 _ J K hS2 hRs hFR hax (show (ps_i s 1131 8).toInt ≤ (ps_i s 1131 4).toInt from by omega) (show (ps_i s 1131 42).toInt = (ps_i s 1131 42).toInt from by omega) (show (ps_i s 1131 42).toInt = n0 from by omega) (show (ps_i s 1131 42).toInt = (ps_i s 1131 42).toInt from by omega) (show -1 ≤ v5.toInt from by omega) (show v5.toInt ≤ 18 from by omega) (show 1 ≤ (ps_i s 1131 5).toInt ∨ (0 ≤ v5.toInt ∧ (ps_i s 1131 42).toInt < 40) from by omega)
    · have f12 : (ps_i s 1131 42).toInt = (40 : Int) := xeq h10
      exact ms_238_20 (σ := σ) (ax := ax) (n0 := n0) k  (ps_i s 1131 42) v5 _ J K hS2 hRs hFR hax (show (ps_i s 1131 8).toInt ≤ (ps_i s 1131 4).toInt from by omega) (show (ps_i s 1131 5).toInt = 0 from by omega) (show (ps_i s 1131 42).toInt = (ps_i s 1131 42).toInt from by omega) (show (ps_i s 1131 42).toInt = n0 from by omega) (show (ps_i s 1131 42).toInt = (ps_i s 1131 42).toInt from by omega) (show -1 ≤ v5.toInt from by omega) (show v5.toInt ≤ 18 from by omega) (show v5.toInt < 0 ∨ (ps_i s 1131 42).toInt = 40 from by omega)
end
section
set_option maxRecDepth 100000
-- ProofBenchModel.prove()I
theorem pg_240_0 {d : Nat} {s : ps_S} {Q : Option Value → ps_S → Prop} (h :
  ps_Cl d 198 [.ref 1131] s (ps_rV (fun s1 =>
    ps_At (d + 1) 240 9 [(0, .ref 1131)] [] (ps_ui s1 1131 42 0) Q))) : ps_At (d + 1) 240 0 [(0, .ref 1131)] [] s Q :=
  ps_wp_at (stops := [(9, [0]), (30, [0]), (54, [0])]) (n := 7) h rfl

theorem pg_240_9 {d : Nat} {s : ps_S} {Q : Option Value → ps_S → Prop} (h :
  ps_Cl d 192 [.ref 1131] s (ps_rI (fun v1 s1 =>
    (v1 = 0 →
      ps_At (d + 1) 240 30 [(0, .ref 1131)] [] s1 Q) ∧
    (v1 ≠ 0 →
      ((ps_i s1 1131 9) = 0 →
        ps_At (d + 1) 240 30 [(0, .ref 1131)] [] s1 Q) ∧
      ((ps_i s1 1131 9) ≠ 0 →
        ps_Cl d 238 [.ref 1131] s1 (ps_rV (fun s2 =>
          ps_At (d + 1) 240 9 [(0, .ref 1131)] [] s2 Q))))))) : ps_At (d + 1) 240 9 [(0, .ref 1131)] [] s Q :=
  ps_wp_at (stops := [(9, [0]), (30, [0]), (54, [0])]) (n := 11) h rfl

theorem pg_240_30 {d : Nat} {s : ps_S} {Q : Option Value → ps_S → Prop} (h :
  ps_Cl d 192 [.ref 1131] s (ps_rI (fun v1 s1 =>
    (v1 ≠ 0 →
      ps_At (d + 1) 240 54 [(0, .ref 1131)] [] (ps_ui (ps_ui (ps_ui s1 1131 47 0) 1131 48 (-1)) 1131 49 (-1)) Q) ∧
    (v1 = 0 →
      Q (some (.int (-1))) s1)))) : ps_At (d + 1) 240 30 [(0, .ref 1131)] [] s Q :=
  ps_wp_at (stops := [(9, [0]), (30, [0]), (54, [0])]) (n := 16) h rfl

theorem pg_240_54 {d : Nat} {s : ps_S} {Q : Option Value → ps_S → Prop} (h :
  ((ps_i s 1131 42) ≤ (ps_i s 1131 47) →
    Q (some (.int (ps_i s 1131 47))) s) ∧
  ((ps_i s 1131 47) < (ps_i s 1131 42) →
    (0 ≤ (ps_i s 1131 48) →
      Q (some (.int (ps_i s 1131 47))) s) ∧
    ((ps_i s 1131 48) < 0 →
      ps_Cl d 252 [.ref 1131, .int (ps_i s 1131 47)] s (ps_rV (fun s1 =>
        ((ps_i s1 1131 50) ≠ 0 →
          ps_At (d + 1) 240 54 [(0, .ref 1131)] [] (ps_ui (ps_ui s1 1131 48 (ps_i s1 1131 47)) 1131 49 (ps_i (ps_ui s1 1131 48 (ps_i s1 1131 47)) 1131 50)) Q) ∧
        ((ps_i s1 1131 50) = 0 →
          ps_At (d + 1) 240 54 [(0, .ref 1131)] [] (ps_ui s1 1131 47 ((ps_i s1 1131 47) + 1)) Q)))))) : ps_At (d + 1) 240 54 [(0, .ref 1131)] [] s Q :=
  ps_wp_at (stops := [(9, [0]), (30, [0]), (54, [0])]) (n := 39) h rfl

theorem ms_240_54 {x : Nat → Nat → Nat} {t : Int32} {d : Nat} {s0 : ps_S} {σ : mSig} {Q : Option Value → ps_S → Prop} (k : ∀ (v : Int32) (s' : ps_S), mJ x t s' → kp [1133, 1134, 1143, 1144, 1145, 1146, 1147, 1148, 1149, 1150, 1151, 1152, 1153, 1154, 1155, 1156, 1157, 1158, 1159, 1160] [3, 4, 5, 6, 7, 8, 9, 10, 11, 22, 23, 29, 30, 31, 32, 34, 42, 47, 48, 49, 50, 51] s0 s' → (MI σ (ps_a s' 1134) (ps_a s' 1135) (ps_a s' 1136) (ps_a s' 1137) (ps_a s' 1138) (ps_a s' 1139) (ps_a s' 1157) (ps_a s' 1176) (ps_i s' 1131 21).toInt (ps_i s' 1131 47).toInt (ps_i s' 1131 54).toInt) → ((ps_i s' 1131 3).toInt = 0) → Q (some (.int v)) s') : ∀ (n : Nat) (s : ps_S), (mJ x t s) → (kp [1133, 1134, 1143, 1144, 1145, 1146, 1147, 1148, 1149, 1150, 1151, 1152, 1153, 1154, 1155, 1156, 1157, 1158, 1159, 1160] [3, 4, 5, 6, 7, 8, 9, 10, 11, 22, 23, 29, 30, 31, 32, 34, 42, 47, 48, 49, 50, 51] s0 s) → (MI σ (ps_a s 1134) (ps_a s 1135) (ps_a s 1136) (ps_a s 1137) (ps_a s 1138) (ps_a s 1139) (ps_a s 1157) (ps_a s 1176) (ps_i s 1131 21).toInt (ps_i s 1131 47).toInt (ps_i s 1131 54).toInt) → (SRs σ (ps_a s 1134) (ps_a s 1152) (ps_a s 1153) (ps_a s 1137 (Int32.toNatClampNeg (ps_i s 1131 21))).toInt (ps_i s 1131 42).toInt) → (0 ≤ (ps_i s 1131 47).toInt) → ((ps_i s 1131 47).toInt ≤ (ps_i s 1131 42).toInt) → ((ps_i s 1131 3).toInt = 0) → 2 * (50 - (ps_i s 1131 47).toInt) - (ps_i s 1131 48).toInt ≤ (n : Int) → ps_At (d + 7) 240 54 [(0, .ref 1131)] [] s Q := by
  refine xstr (fun n ih => ?_)
  intro s J K hMI hRD i2 i3 i4 hm
  have r1 := mf_47 J
  have r2 := mf_42 J
  have r3 := mf_3 J
  have r4 := mf_48 J
  refine pg_240_54 (d := d + 6) ?_
  refine And.intro (fun h5 => ?_) (fun h5 => ?_)
  · have f6 : (ps_i s 1131 42).toInt ≤ (ps_i s 1131 47).toInt := xle h5
    exact k (ps_i s 1131 47) _ J K hMI (show (ps_i s 1131 3).toInt = 0 from by omega)
  · have f7 : (ps_i s 1131 47).toInt < (ps_i s 1131 42).toInt := xlt h5
    refine And.intro (fun h8 => ?_) (fun h8 => ?_)
    · have f9 : (0 : Int) ≤ (ps_i s 1131 48).toInt := xle h8
      exact k (ps_i s 1131 47) _ J K hMI (show (ps_i s 1131 3).toInt = 0 from by omega)
    · have f10 : (ps_i s 1131 48).toInt < (0 : Int) := xlt h8
      have b21 := mf_21 J
      have h7 := ma_1137 (i := (ps_i s 1131 21)) J (by omega) (by omega)
      have h54 := mf_54 J
      have hS := MI_S hMI
      have hP := MI_P hMI
      have hB := SR_SB hMI hRD (by omega) (by omega) rfl h7.2 h54.2
      have hM0 : MI σ (ps_a s 1134) (ps_a s 1135) (ps_a s 1136) (ps_a s 1137) (ps_a s 1138) (ps_a s 1139) (ps_a s 1157) (ps_a s 1176) (ps_i s 1131 21).toInt (ps_i s 1131 47).toInt (ps_i s 1131 54).toInt := hMI
      have hR0 : SRs σ (ps_a s 1134) (ps_a s 1152) (ps_a s 1153) (ps_a s 1137 (Int32.toNatClampNeg (ps_i s 1131 21))).toInt (ps_i s 1131 42).toInt := hRD
      refine ms_252 J (hS) (hP) (hB) (show 0 ≤ (ps_i s 1131 47).toInt from by omega) (show (ps_i s 1131 47).toInt < 40 from by omega) (fun s11 J11 K11 p11_0 p11_1 p11_2 => ?_)
      have K12 := kpt K K11 rfl rfl
      have KC := K11
      have hM0 : MI σ (ps_a s 1134) (ps_a s11 1135) (ps_a s11 1136) (ps_a s11 1137) (ps_a s11 1138) (ps_a s11 1139) (ps_a s 1157) (ps_a s11 1176) (ps_i s11 1131 21).toInt (ps_i s11 1131 47).toInt (ps_i s11 1131 54).toInt := by rw [show ps_a s11 1135 = ps_a s 1135 from (K11.2 1135 rfl).1, show ps_a s11 1136 = ps_a s 1136 from (K11.2 1136 rfl).1, show ps_a s11 1137 = ps_a s 1137 from (K11.2 1137 rfl).1, show ps_a s11 1138 = ps_a s 1138 from (K11.2 1138 rfl).1, show ps_a s11 1139 = ps_a s 1139 from (K11.2 1139 rfl).1, show ps_a s11 1176 = ps_a s 1176 from (K11.2 1176 rfl).1, show ps_i s11 1131 21 = ps_i s 1131 21 from kp_i K11 21 rfl, show ps_i s11 1131 47 = ps_i s 1131 47 from kp_i K11 47 rfl, show ps_i s11 1131 54 = ps_i s 1131 54 from kp_i K11 54 rfl]; exact hM0
      have hR0 : SRs σ (ps_a s 1134) (ps_a s11 1152) (ps_a s11 1153) (ps_a s11 1137 (Int32.toNatClampNeg (ps_i s11 1131 21))).toInt (ps_i s11 1131 42).toInt := by rw [show ps_a s11 1152 = ps_a s 1152 from (K11.2 1152 rfl).1, show ps_a s11 1153 = ps_a s 1153 from (K11.2 1153 rfl).1, show ps_a s11 1137 = ps_a s 1137 from (K11.2 1137 rfl).1, show ps_i s11 1131 21 = ps_i s 1131 21 from kp_i K11 21 rfl, show ps_i s11 1131 42 = ps_i s 1131 42 from kp_i K11 42 rfl]; exact hR0
      have hP1 : _ := p11_0
      have hP2 : _ := p11_1
      have ho : _ := p11_2
      have r13 := mf_50 J11
      refine And.intro (fun h14 => ?_) (fun h14 => ?_)
      · have f15 : (ps_i s11 1131 50).toInt ≠ (0 : Int) := xne h14
        have r16 := mf_47 J11
        have u17 : (ps_i s11 1131 47).toInt = (ps_i s 1131 47).toInt := xeq (kp_i K11 47 rfl)
        have J18 := mwi_48 (v := (ps_i s11 1131 47)) J11 (show -1 ≤ (ps_i s11 1131 47).toInt from by omega) (show (ps_i s11 1131 47).toInt ≤ 40 from by omega)
        have K19 := kpi K12 (q := 48) (v := (ps_i s11 1131 47)) rfl
        have J20 := mwi_n 49 (v := (ps_i s11 1131 50)) J18 rfl
        have K21 := kpi K19 (q := 49) (v := (ps_i s11 1131 50)) rfl
        have r22 := mf_42 J11
        have u23 : (ps_i s11 1131 42).toInt = (ps_i s 1131 42).toInt := xeq (kp_i K11 42 rfl)
        have r24 := mf_3 J11
        have u25 : (ps_i s11 1131 3).toInt = (ps_i s 1131 3).toInt := xeq (kp_i K11 3 rfl)
        exact ih (n - 1) (show n - 1 < n from by omega)  _ J20 K21 (MI_take hM0 (fun k hk => ho k hk) (PSt_le hP1 (show (ps_i s11 1131 47).toInt ≤ (ps_i s 1131 47).toInt from by omega))) (SRs_ho hR0 (fun k hk => ho k hk)) (show 0 ≤ (ps_i s11 1131 47).toInt from by omega) (show (ps_i s11 1131 47).toInt ≤ (ps_i s11 1131 42).toInt from by omega) (show (ps_i s11 1131 3).toInt = 0 from by omega) (show 2 * (50 - (ps_i s11 1131 47).toInt) - (ps_i s11 1131 47).toInt ≤ ((n - 1 : Nat) : Int) from by omega)
      · have f26 : (ps_i s11 1131 50).toInt = (0 : Int) := xeq h14
        have r27 := mf_47 J11
        have u28 : (ps_i s11 1131 47).toInt = (ps_i s 1131 47).toInt := xeq (kp_i K11 47 rfl)
        have a29 : ((ps_i s11 1131 47) + 1).toInt = (ps_i s11 1131 47).toInt + (1 : Int) := xIa (show -2147483648 ≤ (ps_i s11 1131 47).toInt + (1 : Int) from by omega) (show (ps_i s11 1131 47).toInt + (1 : Int) < 2147483648 from by omega)
        have J30 := mwi_47 (v := ((ps_i s11 1131 47) + 1)) J11 (show 0 ≤ ((ps_i s11 1131 47) + 1).toInt from by omega) (show ((ps_i s11 1131 47) + 1).toInt ≤ 40 from by omega)
        have K31 := kpi K12 (q := 47) (v := ((ps_i s11 1131 47) + 1)) rfl
        have r32 := mf_42 J11
        have u33 : (ps_i s11 1131 42).toInt = (ps_i s 1131 42).toInt := xeq (kp_i K11 42 rfl)
        have r34 := mf_3 J11
        have u35 : (ps_i s11 1131 3).toInt = (ps_i s 1131 3).toInt := xeq (kp_i K11 3 rfl)
        have r36 := mf_48 J11
        have u37 : (ps_i s11 1131 48).toInt = (ps_i s 1131 48).toInt := xeq (kp_i K11 48 rfl)
        exact ih (n - 1) (show n - 1 < n from by omega)  _ J30 K31 (MI_take hM0 (fun k hk => ho k hk) (PSt_le (hP2 (by omega)) (show ((ps_i s11 1131 47) + 1).toInt ≤ (ps_i s 1131 47).toInt + 1 from by omega))) (SRs_ho hR0 (fun k hk => ho k hk)) (show 0 ≤ ((ps_i s11 1131 47) + 1).toInt from by omega) (show ((ps_i s11 1131 47) + 1).toInt ≤ (ps_i s11 1131 42).toInt from by omega) (show (ps_i s11 1131 3).toInt = 0 from by omega) (show 2 * (50 - ((ps_i s11 1131 47) + 1).toInt) - (ps_i s11 1131 48).toInt ≤ ((n - 1 : Nat) : Int) from by omega)

theorem ms_240_30 {x : Nat → Nat → Nat} {t : Int32} {d : Nat} {s0 : ps_S} {σ : mSig} {Q : Option Value → ps_S → Prop} (k : ∀ (v : Int32) (s' : ps_S), mJ x t s' → kp [1133, 1134, 1143, 1144, 1145, 1146, 1147, 1148, 1149, 1150, 1151, 1152, 1153, 1154, 1155, 1156, 1157, 1158, 1159, 1160] [3, 4, 5, 6, 7, 8, 9, 10, 11, 22, 23, 29, 30, 31, 32, 34, 42, 47, 48, 49, 50, 51] s0 s' → (MI σ (ps_a s' 1134) (ps_a s' 1135) (ps_a s' 1136) (ps_a s' 1137) (ps_a s' 1138) (ps_a s' 1139) (ps_a s' 1157) (ps_a s' 1176) (ps_i s' 1131 21).toInt (ps_i s' 1131 47).toInt (ps_i s' 1131 54).toInt) → ((ps_i s' 1131 3).toInt = 0) → Q (some (.int v)) s') (s : ps_S) (J : mJ x t s) (K : kp [1133, 1134, 1143, 1144, 1145, 1146, 1147, 1148, 1149, 1150, 1151, 1152, 1153, 1154, 1155, 1156, 1157, 1158, 1159, 1160] [3, 4, 5, 6, 7, 8, 9, 10, 11, 22, 23, 29, 30, 31, 32, 34, 42, 47, 48, 49, 50, 51] s0 s) (hMI : MI σ (ps_a s 1134) (ps_a s 1135) (ps_a s 1136) (ps_a s 1137) (ps_a s 1138) (ps_a s 1139) (ps_a s 1157) (ps_a s 1176) (ps_i s 1131 21).toInt (ps_i s 1131 47).toInt (ps_i s 1131 54).toInt) (i1 : 1 ≤ (ps_i s 1131 5).toInt ∨ SRs σ (ps_a s 1134) (ps_a s 1152) (ps_a s 1153) (ps_a s 1137 (Int32.toNatClampNeg (ps_i s 1131 21))).toInt (ps_i s 1131 42).toInt) (i2 : (ps_i s 1131 3).toInt = 0) : ps_At (d + 7) 240 30 [(0, .ref 1131)] [] s Q := by
  have r1 := mf_3 J
  refine pg_240_30 (d := d + 6) ?_
  refine ms_192 J  (fun v2 p2_0 b2 => ?_)
  have p2_0' : (v2.toInt = 0 ∧ 1 ≤ (ps_i s 1131 5).toInt) ∨ (v2.toInt = 1 ∧ (ps_i s 1131 5).toInt = 0) := p2_0
  have r3 := mf_5 J
  refine And.intro (fun h4 => ?_) (fun h4 => ?_)
  · have f5 : v2.toInt ≠ (0 : Int) := xne h4
    have qz5 : (ps_i s 1131 5).toInt = 0 := by omega
    clear p2_0' p2_0
    have hRD := i1.resolve_left (by omega)
    have J6 := mwi_47 (v := (0 : Int32)) J (show 0 ≤ (0 : Int) from by omega) (show (0 : Int) ≤ 40 from by omega)
    have K7 := kpi K (q := 47) (v := (0 : Int32)) rfl
    have hMI : MI σ (ps_a (ps_ui s 1131 47 0) 1134) (ps_a (ps_ui s 1131 47 0) 1135) (ps_a (ps_ui s 1131 47 0) 1136) (ps_a (ps_ui s 1131 47 0) 1137) (ps_a (ps_ui s 1131 47 0) 1138) (ps_a (ps_ui s 1131 47 0) 1139) (ps_a (ps_ui s 1131 47 0) 1157) (ps_a (ps_ui s 1131 47 0) 1176) (ps_i (ps_ui s 1131 47 0) 1131 21).toInt (ps_i (ps_ui s 1131 47 0) 1131 47).toInt (ps_i (ps_ui s 1131 47 0) 1131 54).toInt := MI_st hMI (mf_47 J).1 (Int.le_refl _)
    have J8 := mwi_48 (v := (-1 : Int32)) J6 (show -1 ≤ (-1 : Int) from by omega) (show (-1 : Int) ≤ 40 from by omega)
    have K9 := kpi K7 (q := 48) (v := (-1 : Int32)) rfl
    have J10 := mwi_n 49 (v := (-1 : Int32)) J8 rfl
    have K11 := kpi K9 (q := 49) (v := (-1 : Int32)) rfl
    have r12 := mf_42 J
    exact ms_240_54 (σ := σ) k  (2 * (50 - (0 : Int)) - (-1 : Int)).toNat  _ J10 K11 hMI hRD (show 0 ≤ (0 : Int) from by omega) (show (0 : Int) ≤ (ps_i s 1131 42).toInt from by omega) (show (ps_i s 1131 3).toInt = 0 from by omega) (show 2 * (50 - (0 : Int)) - (-1 : Int) ≤ (((2 * (50 - (0 : Int)) - (-1 : Int)).toNat : Nat) : Int) from by omega)
  · have f13 : v2.toInt = (0 : Int) := xeq h4
    have qz13 : 1 ≤ (ps_i s 1131 5).toInt := by omega
    clear p2_0' p2_0
    exact k (-1 : Int32) _ J K hMI (show (ps_i s 1131 3).toInt = 0 from by omega)

theorem ms_240_9 {x : Nat → Nat → Nat} {t : Int32} {d : Nat} {s0 : ps_S} {σ : mSig} {Q : Option Value → ps_S → Prop} (k : ∀ (v : Int32) (s' : ps_S), mJ x t s' → kp [1133, 1134, 1143, 1144, 1145, 1146, 1147, 1148, 1149, 1150, 1151, 1152, 1153, 1154, 1155, 1156, 1157, 1158, 1159, 1160] [3, 4, 5, 6, 7, 8, 9, 10, 11, 22, 23, 29, 30, 31, 32, 34, 42, 47, 48, 49, 50, 51] s0 s' → (MI σ (ps_a s' 1134) (ps_a s' 1135) (ps_a s' 1136) (ps_a s' 1137) (ps_a s' 1138) (ps_a s' 1139) (ps_a s' 1157) (ps_a s' 1176) (ps_i s' 1131 21).toInt (ps_i s' 1131 47).toInt (ps_i s' 1131 54).toInt) → ((ps_i s' 1131 3).toInt = 0) → Q (some (.int v)) s') : ∀ (n : Nat) (s : ps_S), (mJ x t s) → (kp [1133, 1134, 1143, 1144, 1145, 1146, 1147, 1148, 1149, 1150, 1151, 1152, 1153, 1154, 1155, 1156, 1157, 1158, 1159, 1160] [3, 4, 5, 6, 7, 8, 9, 10, 11, 22, 23, 29, 30, 31, 32, 34, 42, 47, 48, 49, 50, 51] s0 s) → (MI σ (ps_a s 1134) (ps_a s 1135) (ps_a s 1136) (ps_a s 1137) (ps_a s 1138) (ps_a s 1139) (ps_a s 1157) (ps_a s 1176) (ps_i s 1131 21).toInt (ps_i s 1131 47).toInt (ps_i s 1131 54).toInt) → ((ps_i s 1131 8).toInt ≤ (ps_i s 1131 4).toInt) → ((ps_i s 1131 22).toInt = (ps_i s 1131 21).toInt) → (1 ≤ (ps_i s 1131 5).toInt ∨ SRs σ (ps_a s 1134) (ps_a s 1152) (ps_a s 1153) (ps_a s 1137 (Int32.toNatClampNeg (ps_i s 1131 21))).toInt (ps_i s 1131 42).toInt) → ((ps_i s 1131 47).toInt ≤ 40) → ((ps_i s 1131 3).toInt = 0) → 2 * (41 - (ps_i s 1131 42).toInt) - (ps_i s 1131 5).toInt ≤ (n : Int) → ps_At (d + 7) 240 9 [(0, .ref 1131)] [] s Q := by
  refine xstr (fun n ih => ?_)
  intro s J K hMI i1 i2 i3 i4 i5 hm
  have r1 := mf_8 J
  have r2 := mf_4 J
  have r3 := mf_22 J
  have r4 := mf_21 J
  have r5 := mf_47 J
  have r6 := mf_3 J
  have r7 := mf_42 J
  have r8 := mf_5 J
  refine pg_240_9 (d := d + 6) ?_
  refine ms_192 J  (fun v9 p9_0 b9 => ?_)
  have p9_0' : (v9.toInt = 0 ∧ 1 ≤ (ps_i s 1131 5).toInt) ∨ (v9.toInt = 1 ∧ (ps_i s 1131 5).toInt = 0) := p9_0
  refine And.intro (fun h10 => ?_) (fun h10 => ?_)
  · have f11 : v9.toInt = (0 : Int) := xeq h10
    have qz11 : 1 ≤ (ps_i s 1131 5).toInt := by omega
    clear p9_0' p9_0
    exact ms_240_30 (σ := σ) k   _ J K hMI (by assumption) (show (ps_i s 1131 3).toInt = 0 from by omega)
  · have f12 : v9.toInt ≠ (0 : Int) := xne h10
    have qz12 : (ps_i s 1131 5).toInt = 0 := by omega
    clear p9_0' p9_0
    have r13 := mf_9 J
    refine And.intro (fun h14 => ?_) (fun h14 => ?_)
    · have f15 : (ps_i s 1131 9).toInt = (0 : Int) := xeq h14
      exact ms_240_30 (σ := σ) k   _ J K hMI (by assumption) (show (ps_i s 1131 3).toInt = 0 from by omega)
    · have f16 : (ps_i s 1131 9).toInt ≠ (0 : Int) := xne h14
      have e21 : Int32.toNatClampNeg (ps_i s 1131 22) = Int32.toNatClampNeg (ps_i s 1131 21) := by show (ps_i s 1131 22).toInt.toNat = (ps_i s 1131 21).toInt.toNat; rw [i2]
      have hS2 : Sg (ps_a s 1135) (ps_a s 1136) (ps_a s 1138) (ps_a s 1139) (ps_i s 1131 22).toInt σ := by rw [i2]; exact hMI.1
      have hRs := i3.resolve_left (by omega)
      have hM0 : MI σ (ps_a s 1134) (ps_a s 1135) (ps_a s 1136) (ps_a s 1137) (ps_a s 1138) (ps_a s 1139) (ps_a s 1157) (ps_a s 1176) (ps_i s 1131 21).toInt (ps_i s 1131 47).toInt (ps_i s 1131 54).toInt := hMI
      refine ms_238 J hS2 (hRs) ((by rw [e21])) (show (ps_i s 1131 8).toInt ≤ (ps_i s 1131 4).toInt from by omega) (show (ps_i s 1131 5).toInt = 0 from by omega) (rfl) (fun s17 J17 K17 p17_0 p17_1 p17_2 p17_3 p17_4 => ?_)
      have K18 := kpt K K17 rfl rfl
      have KC := K17
      have hS2 : Sg (ps_a s17 1135) (ps_a s17 1136) (ps_a s17 1138) (ps_a s17 1139) (ps_i s17 1131 22).toInt σ := by rw [show ps_a s17 1135 = ps_a s 1135 from (K17.2 1135 rfl).1, show ps_a s17 1136 = ps_a s 1136 from (K17.2 1136 rfl).1, show ps_a s17 1138 = ps_a s 1138 from (K17.2 1138 rfl).1, show ps_a s17 1139 = ps_a s 1139 from (K17.2 1139 rfl).1, show ps_i s17 1131 22 = ps_i s 1131 22 from kp_i K17 22 rfl]; exact hS2
      have hM0 : MI σ (ps_a s 1134) (ps_a s17 1135) (ps_a s17 1136) (ps_a s17 1137) (ps_a s17 1138) (ps_a s17 1139) (ps_a s17 1157) (ps_a s17 1176) (ps_i s17 1131 21).toInt (ps_i s17 1131 47).toInt (ps_i s17 1131 54).toInt := by rw [show ps_a s17 1135 = ps_a s 1135 from (K17.2 1135 rfl).1, show ps_a s17 1136 = ps_a s 1136 from (K17.2 1136 rfl).1, show ps_a s17 1137 = ps_a s 1137 from (K17.2 1137 rfl).1, show ps_a s17 1138 = ps_a s 1138 from (K17.2 1138 rfl).1, show ps_a s17 1139 = ps_a s 1139 from (K17.2 1139 rfl).1, show ps_a s17 1157 = ps_a s 1157 from (K17.2 1157 rfl).1, show ps_a s17 1176 = ps_a s 1176 from (K17.2 1176 rfl).1, show ps_i s17 1131 21 = ps_i s 1131 21 from kp_i K17 21 rfl, show ps_i s17 1131 47 = ps_i s 1131 47 from kp_i K17 47 rfl, show ps_i s17 1131 54 = ps_i s 1131 54 from kp_i K17 54 rfl]; exact hM0
      have p17_0' : (ps_i s17 1131 8).toInt ≤ (ps_i s17 1131 4).toInt := p17_0
      have r19 := mf_8 J17
      have r20 := mf_4 J17
      have u21 : (ps_i s17 1131 4).toInt = (ps_i s 1131 4).toInt := xeq (kp_i K17 4 rfl)
      have p17_3' : 1 ≤ (ps_i s17 1131 5).toInt ∨ (ps_i s17 1131 42).toInt = (ps_i s 1131 42).toInt + 1 := p17_3
      have r22 := mf_5 J17
      have r23 := mf_42 J17
      have p17_4' : (ps_i s 1131 42).toInt ≤ (ps_i s17 1131 42).toInt := p17_4
      have hR1 : _ := p17_1
      have ho : _ := p17_2
      have r24 := mf_22 J17
      have u25 : (ps_i s17 1131 22).toInt = (ps_i s 1131 22).toInt := xeq (kp_i K17 22 rfl)
      have r26 := mf_21 J17
      have u27 : (ps_i s17 1131 21).toInt = (ps_i s 1131 21).toInt := xeq (kp_i K17 21 rfl)
      have r28 := mf_47 J17
      have u29 : (ps_i s17 1131 47).toInt = (ps_i s 1131 47).toInt := xeq (kp_i K17 47 rfl)
      have r30 := mf_3 J17
      have u31 : (ps_i s17 1131 3).toInt = (ps_i s 1131 3).toInt := xeq (kp_i K17 3 rfl)
      exact ih (n - 1) (show n - 1 < n from by omega)  _ J17 K18 (MI_pool hM0 (show (ps_i s17 1131 47).toInt ≤ 40 from by omega) ho) (show (ps_i s17 1131 8).toInt ≤ (ps_i s17 1131 4).toInt from by omega) (show (ps_i s17 1131 22).toInt = (ps_i s17 1131 21).toInt from by omega) (hR1.imp id (fun z => SRs_n z rfl (by rw [show ps_a s17 1137 = ps_a s 1137 from (KC.2 1137 rfl).1, show ps_i s17 1131 21 = ps_i s 1131 21 from kp_i KC 21 rfl]))) (show (ps_i s17 1131 47).toInt ≤ 40 from by omega) (show (ps_i s17 1131 3).toInt = 0 from by omega) (show 2 * (41 - (ps_i s17 1131 42).toInt) - (ps_i s17 1131 5).toInt ≤ ((n - 1 : Nat) : Int) from by omega)

theorem ms_240 {x : Nat → Nat → Nat} {t : Int32} {s : ps_S} {d : Nat} {f : Int32 → ps_S → Prop} (J : mJ x t s) {σ : mSig} (hMI : MI σ (ps_a s 1134) (ps_a s 1135) (ps_a s 1136) (ps_a s 1137) (ps_a s 1138) (ps_a s 1139) (ps_a s 1157) (ps_a s 1176) (ps_i s 1131 21).toInt (ps_i s 1131 47).toInt (ps_i s 1131 54).toInt) (k : ∀ (v : Int32) (s' : ps_S), mJ x t s' → kp [1133, 1134, 1143, 1144, 1145, 1146, 1147, 1148, 1149, 1150, 1151, 1152, 1153, 1154, 1155, 1156, 1157, 1158, 1159, 1160] [3, 4, 5, 6, 7, 8, 9, 10, 11, 22, 23, 29, 30, 31, 32, 34, 42, 47, 48, 49, 50, 51] s s' → (MI σ (ps_a s' 1134) (ps_a s' 1135) (ps_a s' 1136) (ps_a s' 1137) (ps_a s' 1138) (ps_a s' 1139) (ps_a s' 1157) (ps_a s' 1176) (ps_i s' 1131 21).toInt (ps_i s' 1131 47).toInt (ps_i s' 1131 54).toInt) → ((ps_i s' 1131 3).toInt = 0) → f v s') : ps_Cl (d + 7) 240 [.ref 1131] s (ps_rI f) := by
  have K : kp [1133, 1134, 1143, 1144, 1145, 1146, 1147, 1148, 1149, 1150, 1151, 1152, 1153, 1154, 1155, 1156, 1157, 1158, 1159, 1160] [3, 4, 5, 6, 7, 8, 9, 10, 11, 22, 23, 29, 30, 31, 32, 34, 42, 47, 48, 49, 50, 51] s s := kp_refl
  refine pg_240_0 (d := d + 6) ?_
  refine ms_198 J  (fun s1 J1 K1 p1_0 p1_1 p1_2 p1_3 p1_4 => ?_)
  have K2 := kpt K K1 rfl rfl
  have KC := K1
  have hMI : MI σ (ps_a s1 1134) (ps_a s1 1135) (ps_a s1 1136) (ps_a s1 1137) (ps_a s1 1138) (ps_a s1 1139) (ps_a s1 1157) (ps_a s1 1176) (ps_i s1 1131 21).toInt (ps_i s1 1131 47).toInt (ps_i s1 1131 54).toInt := by rw [show ps_a s1 1134 = ps_a s 1134 from (K1.2 1134 rfl).1, show ps_a s1 1135 = ps_a s 1135 from (K1.2 1135 rfl).1, show ps_a s1 1136 = ps_a s 1136 from (K1.2 1136 rfl).1, show ps_a s1 1137 = ps_a s 1137 from (K1.2 1137 rfl).1, show ps_a s1 1138 = ps_a s 1138 from (K1.2 1138 rfl).1, show ps_a s1 1139 = ps_a s 1139 from (K1.2 1139 rfl).1, show ps_a s1 1157 = ps_a s 1157 from (K1.2 1157 rfl).1, show ps_a s1 1176 = ps_a s 1176 from (K1.2 1176 rfl).1, show ps_i s1 1131 21 = ps_i s 1131 21 from kp_i K1 21 rfl, show ps_i s1 1131 47 = ps_i s 1131 47 from kp_i K1 47 rfl, show ps_i s1 1131 54 = ps_i s 1131 54 from kp_i K1 54 rfl]; exact hMI
  have p1_0' : (ps_i s1 1131 8).toInt ≤ (ps_i s1 1131 4).toInt := p1_0
  have r3 := mf_8 J1
  have r4 := mf_4 J1
  have p1_1' : (ps_i s1 1131 5).toInt = 0 := p1_1
  have r5 := mf_5 J1
  have p1_2' : (ps_i s1 1131 3).toInt = 0 := p1_2
  have r6 := mf_3 J1
  have p1_3' : (ps_i s1 1131 23).toInt = 0 := p1_3
  have r7 := mf_23 J1
  have p1_4' : (ps_i s1 1131 22).toInt = (ps_i s1 1131 21).toInt := p1_4
  have r8 := mf_22 J1
  have r9 := mf_21 J1
  have u10 : (ps_i s1 1131 21).toInt = (ps_i s 1131 21).toInt := xeq (kp_i K1 21 rfl)
  have r11 := mf_21 J
  have J12 := mwi_42 (v := (0 : Int32)) J1 (show 0 ≤ (0 : Int) from by omega) (show (0 : Int) ≤ 40 from by omega)
  have K13 := kpi K2 (q := 42) (v := (0 : Int32)) rfl
  have r14 := mf_47 J1
  have u15 : (ps_i s1 1131 47).toInt = (ps_i s 1131 47).toInt := xeq (kp_i K1 47 rfl)
  have r16 := mf_47 J
  exact ms_240_9 (σ := σ) k  (2 * (41 - (0 : Int)) - (ps_i s1 1131 5).toInt).toNat  _ J12 K13 hMI (show (ps_i s1 1131 8).toInt ≤ (ps_i s1 1131 4).toInt from by omega) (show (ps_i s1 1131 22).toInt = (ps_i s1 1131 21).toInt from by omega) (Or.inr (SRs_0 rfl)) (show (ps_i s1 1131 47).toInt ≤ 40 from by omega) (show (ps_i s1 1131 3).toInt = 0 from by omega) (show 2 * (41 - (0 : Int)) - (ps_i s1 1131 5).toInt ≤ (((2 * (41 - (0 : Int)) - (ps_i s1 1131 5).toInt).toNat : Nat) : Int) from by omega)
end
section
set_option maxRecDepth 100000
-- ProofBenchModel.read()I
theorem pg_274_0 {d : Nat} {s : ps_S} {Q : Option Value → ps_S → Prop} (h :
  ps_Cl d 198 [.ref 1131] s (ps_rV (fun s1 =>
    ps_Cl d 209 [.ref 1131, .int 25748, .int 1, .int 0] s1 (ps_rV (fun s2 =>
      ps_Cl d 192 [.ref 1131] s2 (ps_rI (fun v3 s3 =>
        (v3 = 0 →
          ps_At (d + 1) 274 31 [(0, .ref 1131)] [] s3 Q) ∧
        (v3 ≠ 0 →
          ((ps_i s3 1131 9) = 0 →
            ps_At (d + 1) 274 31 [(0, .ref 1131)] [] s3 Q) ∧
          ((ps_i s3 1131 9) ≠ 0 →
            ps_Cl d 196 [.ref 1131] s3 (ps_rV (fun s4 =>
              ps_At (d + 1) 274 31 [(0, .ref 1131)] [] s4 Q))))))))))) : ps_At (d + 1) 274 0 [(0, .ref 1131)] [] s Q :=
  ps_wp_at (stops := [(31, [0])]) (n := 17) h rfl

theorem pg_274_31 {d : Nat} {s : ps_S} {Q : Option Value → ps_S → Prop} (h :
  ps_Cl d 192 [.ref 1131] s (ps_rI (fun v1 s1 =>
    (v1 ≠ 0 →
      ps_Cl d 219 [.ref 1131, .int 25748] s1 (ps_rI (fun v2 s2 =>
        Q (some (.int v2)) s2))) ∧
    (v1 = 0 →
      ps_nd (pm_in 25748 27400) (Q (some (.int (-1))) (ps_ua s1 1134 (Int32.toNatClampNeg (25748 : Int32)) 0)))))) : ps_At (d + 1) 274 31 [(0, .ref 1131)] [] s Q :=
  ps_wp_at (stops := [(31, [0])]) (n := 16) h rfl

theorem ms_274_31 {x : Nat → Nat → Nat} {t : Int32} {d : Nat} {s0 : ps_S} {σ : mSig} {Q : Option Value → ps_S → Prop} (k : ∀ (v : Int32) (s' : ps_S), mJ x t s' → kp [1133, 1134, 1143, 1144, 1145, 1146, 1147, 1148] [3, 4, 5, 6, 7, 8, 9, 10, 11, 22, 23, 29, 30, 31, 32] s0 s' → (MI σ (ps_a s' 1134) (ps_a s' 1135) (ps_a s' 1136) (ps_a s' 1137) (ps_a s' 1138) (ps_a s' 1139) (ps_a s' 1157) (ps_a s' 1176) (ps_i s' 1131 21).toInt (ps_i s' 1131 47).toInt (ps_i s' 1131 54).toInt) → ((ps_i s' 1131 3).toInt = 0) → Q (some (.int v)) s') (g0 : Nat → Int32) (s : ps_S) (J : mJ x t s) (K : kp [1133, 1134, 1143, 1144, 1145, 1146, 1147, 1148] [3, 4, 5, 6, 7, 8, 9, 10, 11, 22, 23, 29, 30, 31, 32] s0 s) (hM0 : MI σ g0 (ps_a s 1135) (ps_a s 1136) (ps_a s 1137) (ps_a s 1138) (ps_a s 1139) (ps_a s 1157) (ps_a s 1176) (ps_i s 1131 21).toInt (ps_i s 1131 47).toInt (ps_i s 1131 54).toInt) (hof : ∀ k : Nat, (k : Int) < 25748 ∨ 25789 ≤ (k : Int) → ps_a s 1134 k = g0 k) (i2 : 1 ≤ (ps_i s 1131 5).toInt ∨ Fm σ (ps_a s 1134) 25748) (i3 : (ps_i s 1131 47).toInt ≤ 40) (i4 : (ps_i s 1131 3).toInt = 0) : ps_At (d + 6) 274 31 [(0, .ref 1131)] [] s Q := by
  have r1 := mf_47 J
  have r2 := mf_3 J
  refine pg_274_31 (d := d + 5) ?_
  refine ms_192 J  (fun v3 p3_0 b3 => ?_)
  have p3_0' : (v3.toInt = 0 ∧ 1 ≤ (ps_i s 1131 5).toInt) ∨ (v3.toInt = 1 ∧ (ps_i s 1131 5).toInt = 0) := p3_0
  have r4 := mf_5 J
  refine And.intro (fun h5 => ?_) (fun h5 => ?_)
  · have f6 : v3.toInt ≠ (0 : Int) := xne h5
    refine pg_219_0 ?_
    refine ps_nd_i (show pm_in (25748 : Int32) 27400 = true from xgi (show 0 ≤ (25748 : Int) from by omega) (show (25748 : Int) < 27400 from by omega)) ?_
    have r7 : (25748 : Int) % 41 = 0 → (25748 : Int) < 27306 → 0 ≤ (ps_a s 1134 (Int32.toNatClampNeg (25748 : Int32))).toInt ∧ (ps_a s 1134 (Int32.toNatClampNeg (25748 : Int32))).toInt ≤ 40 := fun z1 z2 => mp_row (i := (25748 : Int32)) J z1 (show 0 ≤ (25748 : Int) from by omega) z2
    exact k (ps_a s 1134 (Int32.toNatClampNeg (25748 : Int32))) _ J K (MI_read hM0 (show (ps_i s 1131 47).toInt ≤ 40 from by omega) (fun k hk => hof k (by omega)) (Or.inr (i2.resolve_left (by omega)))) (show (ps_i s 1131 3).toInt = 0 from by omega)
  · have f8 : v3.toInt = (0 : Int) := xeq h5
    refine ps_nd_i (show pm_in (25748 : Int32) 27400 = true from xgi (show 0 ≤ (25748 : Int) from by omega) (show (25748 : Int) < 27400 from by omega)) ?_
    have J9 := mw_p (i := (25748 : Int32)) (v := (0 : Int32)) J (show (25748 : Int) % 41 = 0 → 0 ≤ (0 : Int) ∧ (0 : Int) ≤ 40 from by omega) (show 0 ≤ (25748 : Int) from by omega)
    have K10 := kpa' K (r := 1134) (i := (Int32.toNatClampNeg (25748 : Int32))) (v := (0 : Int32)) rfl
    exact k (-1 : Int32) _ J9 K10 (MI_read hM0 (show (ps_i s 1131 47).toInt ≤ 40 from by omega) (fun k hk => (ua_ne (show k ≠ 25748 from by omega)).trans (hof k (by omega))) (Or.inl (show (ps_a (ps_ua s 1134 (Int32.toNatClampNeg (25748 : Int32)) 0) 1134 (Int32.toNatClampNeg (25748 : Int32))).toInt = 0 from by rw [ua_eq]; rfl))) (show (ps_i s 1131 3).toInt = 0 from by omega)

theorem ms_274 {x : Nat → Nat → Nat} {t : Int32} {s : ps_S} {d : Nat} {f : Int32 → ps_S → Prop} (J : mJ x t s) {σ : mSig} (hMI : MI σ (ps_a s 1134) (ps_a s 1135) (ps_a s 1136) (ps_a s 1137) (ps_a s 1138) (ps_a s 1139) (ps_a s 1157) (ps_a s 1176) (ps_i s 1131 21).toInt (ps_i s 1131 47).toInt (ps_i s 1131 54).toInt) (k : ∀ (v : Int32) (s' : ps_S), mJ x t s' → kp [1133, 1134, 1143, 1144, 1145, 1146, 1147, 1148] [3, 4, 5, 6, 7, 8, 9, 10, 11, 22, 23, 29, 30, 31, 32] s s' → (MI σ (ps_a s' 1134) (ps_a s' 1135) (ps_a s' 1136) (ps_a s' 1137) (ps_a s' 1138) (ps_a s' 1139) (ps_a s' 1157) (ps_a s' 1176) (ps_i s' 1131 21).toInt (ps_i s' 1131 47).toInt (ps_i s' 1131 54).toInt) → ((ps_i s' 1131 3).toInt = 0) → f v s') : ps_Cl (d + 6) 274 [.ref 1131] s (ps_rI f) := by
  have K : kp [1133, 1134, 1143, 1144, 1145, 1146, 1147, 1148] [3, 4, 5, 6, 7, 8, 9, 10, 11, 22, 23, 29, 30, 31, 32] s s := kp_refl
  refine pg_274_0 (d := d + 5) ?_
  refine ms_198 J  (fun s1 J1 K1 p1_0 p1_1 p1_2 p1_3 p1_4 => ?_)
  have K2 := kpt K K1 rfl rfl
  have hMI : MI σ (ps_a s1 1134) (ps_a s1 1135) (ps_a s1 1136) (ps_a s1 1137) (ps_a s1 1138) (ps_a s1 1139) (ps_a s1 1157) (ps_a s1 1176) (ps_i s1 1131 21).toInt (ps_i s1 1131 47).toInt (ps_i s1 1131 54).toInt := by rw [show ps_a s1 1134 = ps_a s 1134 from (K1.2 1134 rfl).1, show ps_a s1 1135 = ps_a s 1135 from (K1.2 1135 rfl).1, show ps_a s1 1136 = ps_a s 1136 from (K1.2 1136 rfl).1, show ps_a s1 1137 = ps_a s 1137 from (K1.2 1137 rfl).1, show ps_a s1 1138 = ps_a s 1138 from (K1.2 1138 rfl).1, show ps_a s1 1139 = ps_a s 1139 from (K1.2 1139 rfl).1, show ps_a s1 1157 = ps_a s 1157 from (K1.2 1157 rfl).1, show ps_a s1 1176 = ps_a s 1176 from (K1.2 1176 rfl).1, show ps_i s1 1131 21 = ps_i s 1131 21 from kp_i K1 21 rfl, show ps_i s1 1131 47 = ps_i s 1131 47 from kp_i K1 47 rfl, show ps_i s1 1131 54 = ps_i s 1131 54 from kp_i K1 54 rfl]; exact hMI
  have p1_0' : (ps_i s1 1131 8).toInt ≤ (ps_i s1 1131 4).toInt := p1_0
  have r3 := mf_8 J1
  have r4 := mf_4 J1
  have p1_1' : (ps_i s1 1131 5).toInt = 0 := p1_1
  have r5 := mf_5 J1
  have p1_2' : (ps_i s1 1131 3).toInt = 0 := p1_2
  have r6 := mf_3 J1
  have p1_3' : (ps_i s1 1131 23).toInt = 0 := p1_3
  have r7 := mf_23 J1
  have p1_4' : (ps_i s1 1131 22).toInt = (ps_i s1 1131 21).toInt := p1_4
  have r8 := mf_22 J1
  have r9 := mf_21 J1
  have u10 : (ps_i s1 1131 21).toInt = (ps_i s 1131 21).toInt := xeq (kp_i K1 21 rfl)
  have r11 := mf_21 J
  have hS2 : Sg (ps_a s1 1135) (ps_a s1 1136) (ps_a s1 1138) (ps_a s1 1139) (ps_i s1 1131 22).toInt σ := by rw [show (ps_i s1 1131 22).toInt = (ps_i s1 1131 21).toInt from by omega]; exact hMI.1
  obtain ⟨g0, hg0⟩ : ∃ g0 : Nat → Int32, g0 = ps_a s1 1134 := ⟨_, rfl⟩
  have hM0 : MI σ g0 (ps_a s1 1135) (ps_a s1 1136) (ps_a s1 1137) (ps_a s1 1138) (ps_a s1 1139) (ps_a s1 1157) (ps_a s1 1176) (ps_i s1 1131 21).toInt (ps_i s1 1131 47).toInt (ps_i s1 1131 54).toInt := by rw [hg0]; exact hMI
  have e48 : (25748 : Int32).toInt = 25748 := by decide
  refine ms_209 (b := true) J1 hS2 (show (25748 : Int) % 41 = 0 from by omega) (show 0 ≤ (25748 : Int) from by omega) (show (25748 : Int) < 27306 from by omega) (show (ps_i s1 1131 8).toInt ≤ (ps_i s1 1131 4).toInt from by omega) ((Or.inl ⟨by decide, rfl⟩)) ((by decide)) (fun s12 J12 K12 p12_0 p12_1 p12_2 p12_3 => ?_)
  have K13 := kpt K2 K12 rfl rfl
  have hS2 : Sg (ps_a s12 1135) (ps_a s12 1136) (ps_a s12 1138) (ps_a s12 1139) (ps_i s12 1131 22).toInt σ := by rw [show ps_a s12 1135 = ps_a s1 1135 from (K12.2 1135 rfl).1, show ps_a s12 1136 = ps_a s1 1136 from (K12.2 1136 rfl).1, show ps_a s12 1138 = ps_a s1 1138 from (K12.2 1138 rfl).1, show ps_a s12 1139 = ps_a s1 1139 from (K12.2 1139 rfl).1, show ps_i s12 1131 22 = ps_i s1 1131 22 from kp_i K12 22 rfl]; exact hS2
  have hM0 : MI σ g0 (ps_a s12 1135) (ps_a s12 1136) (ps_a s12 1137) (ps_a s12 1138) (ps_a s12 1139) (ps_a s12 1157) (ps_a s12 1176) (ps_i s12 1131 21).toInt (ps_i s12 1131 47).toInt (ps_i s12 1131 54).toInt := by rw [show ps_a s12 1135 = ps_a s1 1135 from (K12.2 1135 rfl).1, show ps_a s12 1136 = ps_a s1 1136 from (K12.2 1136 rfl).1, show ps_a s12 1137 = ps_a s1 1137 from (K12.2 1137 rfl).1, show ps_a s12 1138 = ps_a s1 1138 from (K12.2 1138 rfl).1, show ps_a s12 1139 = ps_a s1 1139 from (K12.2 1139 rfl).1, show ps_a s12 1157 = ps_a s1 1157 from (K12.2 1157 rfl).1, show ps_a s12 1176 = ps_a s1 1176 from (K12.2 1176 rfl).1, show ps_i s12 1131 21 = ps_i s1 1131 21 from kp_i K12 21 rfl, show ps_i s12 1131 47 = ps_i s1 1131 47 from kp_i K12 47 rfl, show ps_i s12 1131 54 = ps_i s1 1131 54 from kp_i K12 54 rfl]; exact hM0
  have p12_0' : (ps_i s12 1131 8).toInt ≤ (ps_i s12 1131 4).toInt := p12_0
  have r14 := mf_8 J12
  have r15 := mf_4 J12
  have u16 : (ps_i s12 1131 4).toInt = (ps_i s1 1131 4).toInt := xeq (kp_i K12 4 rfl)
  have p12_1' : 1 ≤ (ps_i s1 1131 5).toInt → 1 ≤ (ps_i s12 1131 5).toInt := p12_1
  have r17 := mf_5 J12
  have ho : _ := p12_2
  have hrow : _ := p12_3
  have hof : ∀ k : Nat, (k : Int) < 25748 ∨ 25789 ≤ (k : Int) → ps_a s12 1134 k = g0 k := fun k hk => (ho k (by omega)).trans (congrFun hg0 k).symm
  have hF : 1 ≤ (ps_i s12 1131 5).toInt ∨ Fm σ (ps_a s12 1134) 25748 := hrow.imp id (fun z => (by obtain ⟨l2, g1, g2, g3⟩ := z; exact ⟨l2, (by rw [e48] at g1; exact g1), g2⟩))
  refine ms_192 J12  (fun v18 p18_0 b18 => ?_)
  have p18_0' : (v18.toInt = 0 ∧ 1 ≤ (ps_i s12 1131 5).toInt) ∨ (v18.toInt = 1 ∧ (ps_i s12 1131 5).toInt = 0) := p18_0
  refine And.intro (fun h19 => ?_) (fun h19 => ?_)
  · have f20 : v18.toInt = (0 : Int) := xeq h19
    have r21 := mf_47 J12
    have u22 : (ps_i s12 1131 47).toInt = (ps_i s1 1131 47).toInt := xeq (kp_i K12 47 rfl)
    have r23 := mf_47 J1
    have u24 : (ps_i s1 1131 47).toInt = (ps_i s 1131 47).toInt := xeq (kp_i K1 47 rfl)
    have r25 := mf_47 J
    have r26 := mf_3 J12
    have u27 : (ps_i s12 1131 3).toInt = (ps_i s1 1131 3).toInt := xeq (kp_i K12 3 rfl)
    exact ms_274_31 (σ := σ) k  g0 _ J12 K13 hM0 hof (by assumption) (show (ps_i s12 1131 47).toInt ≤ 40 from by omega) (show (ps_i s12 1131 3).toInt = 0 from by omega)
  · have f28 : v18.toInt ≠ (0 : Int) := xne h19
    have r29 := mf_9 J12
    refine And.intro (fun h30 => ?_) (fun h30 => ?_)
    · have f31 : (ps_i s12 1131 9).toInt = (0 : Int) := xeq h30
      have r32 := mf_47 J12
      have u33 : (ps_i s12 1131 47).toInt = (ps_i s1 1131 47).toInt := xeq (kp_i K12 47 rfl)
      have r34 := mf_47 J1
      have u35 : (ps_i s1 1131 47).toInt = (ps_i s 1131 47).toInt := xeq (kp_i K1 47 rfl)
      have r36 := mf_47 J
      have r37 := mf_3 J12
      have u38 : (ps_i s12 1131 3).toInt = (ps_i s1 1131 3).toInt := xeq (kp_i K12 3 rfl)
      exact ms_274_31 (σ := σ) k  g0 _ J12 K13 hM0 hof (by assumption) (show (ps_i s12 1131 47).toInt ≤ 40 from by omega) (show (ps_i s12 1131 3).toInt = 0 from by omega)
    · have f39 : (ps_i s12 1131 9).toInt ≠ (0 : Int) := xne h30
      refine ms_196 J12  (fun s40 J40 K40 p40_0 => ?_)
      have K41 := kpt K13 K40 rfl rfl
      have hS2 : Sg (ps_a s40 1135) (ps_a s40 1136) (ps_a s40 1138) (ps_a s40 1139) (ps_i s40 1131 22).toInt σ := by rw [show ps_a s40 1135 = ps_a s12 1135 from (K40.2 1135 rfl).1, show ps_a s40 1136 = ps_a s12 1136 from (K40.2 1136 rfl).1, show ps_a s40 1138 = ps_a s12 1138 from (K40.2 1138 rfl).1, show ps_a s40 1139 = ps_a s12 1139 from (K40.2 1139 rfl).1, show ps_i s40 1131 22 = ps_i s12 1131 22 from kp_i K40 22 rfl]; exact hS2
      have hM0 : MI σ g0 (ps_a s40 1135) (ps_a s40 1136) (ps_a s40 1137) (ps_a s40 1138) (ps_a s40 1139) (ps_a s40 1157) (ps_a s40 1176) (ps_i s40 1131 21).toInt (ps_i s40 1131 47).toInt (ps_i s40 1131 54).toInt := by rw [show ps_a s40 1135 = ps_a s12 1135 from (K40.2 1135 rfl).1, show ps_a s40 1136 = ps_a s12 1136 from (K40.2 1136 rfl).1, show ps_a s40 1137 = ps_a s12 1137 from (K40.2 1137 rfl).1, show ps_a s40 1138 = ps_a s12 1138 from (K40.2 1138 rfl).1, show ps_a s40 1139 = ps_a s12 1139 from (K40.2 1139 rfl).1, show ps_a s40 1157 = ps_a s12 1157 from (K40.2 1157 rfl).1, show ps_a s40 1176 = ps_a s12 1176 from (K40.2 1176 rfl).1, show ps_i s40 1131 21 = ps_i s12 1131 21 from kp_i K40 21 rfl, show ps_i s40 1131 47 = ps_i s12 1131 47 from kp_i K40 47 rfl, show ps_i s40 1131 54 = ps_i s12 1131 54 from kp_i K40 54 rfl]; exact hM0
      have hof : ∀ k : Nat, (k : Int) < 25748 ∨ 25789 ≤ (k : Int) → ps_a s40 1134 k = g0 k := by rw [show ps_a s40 1134 = ps_a s12 1134 from (K40.2 1134 rfl).1]; exact hof
      have p40_0' : 1 ≤ (ps_i s40 1131 5).toInt := p40_0
      have r42 := mf_5 J40
      have r43 := mf_47 J40
      have u44 : (ps_i s40 1131 47).toInt = (ps_i s12 1131 47).toInt := xeq (kp_i K40 47 rfl)
      have r45 := mf_47 J12
      have u46 : (ps_i s12 1131 47).toInt = (ps_i s1 1131 47).toInt := xeq (kp_i K12 47 rfl)
      have r47 := mf_47 J1
      have u48 : (ps_i s1 1131 47).toInt = (ps_i s 1131 47).toInt := xeq (kp_i K1 47 rfl)
      have r49 := mf_47 J
      have r50 := mf_3 J40
      have u51 : (ps_i s40 1131 3).toInt = (ps_i s12 1131 3).toInt := xeq (kp_i K40 3 rfl)
      have r52 := mf_3 J12
      have u53 : (ps_i s12 1131 3).toInt = (ps_i s1 1131 3).toInt := xeq (kp_i K12 3 rfl)
      exact ms_274_31 (σ := σ) k  g0 _ J40 K41 hM0 hof (Or.inl (show 1 ≤ (ps_i s40 1131 5).toInt from by omega)) (show (ps_i s40 1131 47).toInt ≤ 40 from by omega) (show (ps_i s40 1131 3).toInt = 0 from by omega)
end
section
/-! a theory as it is told: more relations and functions, more axioms -/
def sLe (σ τ : mSig) : Prop := σ.1.1 ≤ τ.1.1 ∧ σ.1.2 ≤ τ.1.2 ∧ τ.1.2 ≤ 20 ∧ (∀ r, r < σ.1.1 → τ.2.1 r = σ.2.1 r) ∧ (∀ r, r < σ.1.2 → τ.2.2 r = σ.2.2 r)
theorem kS_ext {σ τ : mSig} (h : sLe σ τ) {b : Bool} {p : Nat} {ks : List Bool} (hk : kS σ b p = some ks) : kS τ b p = some ks := by
  obtain ⟨h1, h2, h3, h4, h5⟩ := h
  rcases kS_cases hk with ⟨rfl, hp, rfl⟩ | ⟨rfl, hp, hp', rfl⟩ | ⟨rfl, hp, rfl⟩ | ⟨rfl, hp, rfl⟩ | ⟨rfl, hp, hp', rfl⟩ | ⟨rfl, hp, hp', rfl⟩ | ⟨rfl, hp, hp', rfl⟩
  · rw [hp]; rfl
  · exact kS_f2 hp hp'
  · exact kS_f1 hp
  · rw [hp]; rfl
  · rw [kS_fr hp (by omega), h4 _ (by omega)]
  · rw [kS_tf hp (by omega), h5 _ (by omega)]
  · unfold kS; rw [cond_false, if_neg (by omega), if_pos ⟨hp, hp'⟩]
theorem wf_ext {σ τ : mSig} (h : sLe σ τ) {c : Nat} : ∀ {l : List Nat} {W : List (Bool × Nat)}, wf σ c l W → wf τ c l W
  | [], W, hw => hw
  | p :: l, W, hw => by
    obtain ⟨b, k, W', ks, rfl, hc, hk, hw⟩ := wf_cons.mp hw
    exact wf_c hc (kS_ext h hk) (wf_ext h hw)
theorem FmC_ext {σ τ : mSig} (h : sLe σ τ) {g : Nat → Int32} {a : Int} (hf : FmC σ g a) : FmC τ g a := by
  obtain ⟨l, h1, h2, h3⟩ := hf
  exact ⟨l, h1, wf_ext h h2, h3⟩
def TH (σ : mSig) (g g5 g6 g7 g8 g9 : Nat → Int32) (b : Int) : Prop := Sg g5 g6 g8 g9 b σ ∧ ∀ k : Nat, (k : Int) < (g7 b.toNat).toInt → k < 8 → FmC σ g (21812 + 41 * (8 * b + k))
theorem TH_0 {g g5 g6 g7 g8 g9 : Nat → Int32} {b : Int} (h0 : 0 ≤ b) (h1 : b ≤ 1) (h5 : (g5 b.toNat).toInt = 0) (h6 : (g6 b.toNat).toInt = 0) (h7 : (g7 b.toNat).toInt = 0) : TH ((0, 0), (fun _ => 0, fun _ => 0)) g g5 g6 g7 g8 g9 b := ⟨⟨h0, h1, h5, by decide, h6, by decide, fun r hr => absurd hr (Nat.not_lt_zero r), fun r hr => absurd hr (Nat.not_lt_zero r)⟩, fun k hk _ => by omega⟩
theorem TH_ax {σ : mSig} {g g' g5 g6 g7 g7' g8 g9 : Nat → Int32} {b c a : Int} (h : TH σ g g5 g6 g7 g8 g9 b) (hc : (g7 b.toNat).toInt = c) (ha : a = 21812 + 41 * (8 * b + c)) (h0 : 0 ≤ c) (ho : ∀ k : Nat, (k : Int) < a ∨ a + 41 ≤ (k : Int) → g' k = g k) (hf : FmC σ g' a) (h7 : (g7' b.toNat).toInt = c + 1) : TH σ g' g5 g6 g7' g8 g9 b := by
  obtain ⟨h1, h2⟩ := h
  refine ⟨h1, fun k hk h8 => ?_⟩
  by_cases e : (k : Int) = c
  · rw [e, ← ha]; exact hf
  · exact FmC_keep (h2 k (by omega) h8) (fun j _ _ => ho j (by omega))
theorem TH_8 {σ : mSig} {g g5 g6 g7 g8 g8' g9 : Nat → Int32} {b : Int} {i : Nat} (h : TH σ g g5 g6 g7 g8 g9 b) (hi : (i : Int) = 6 * b + (g5 b.toNat).toInt) (h8 : ∀ j, j ≠ i → g8' j = g8 j) : TH σ g g5 g6 g7 g8' g9 b := by
  obtain ⟨⟨a1, a2, a3, a4, a5, a6, a7, a8⟩, h2⟩ := h
  exact ⟨⟨a1, a2, a3, a4, a5, a6, fun r hr => by rw [h8 _ (by omega)]; exact a7 r hr, a8⟩, h2⟩
theorem TH_9 {σ : mSig} {g g5 g6 g7 g8 g9 g9' : Nat → Int32} {b : Int} {i : Nat} (h : TH σ g g5 g6 g7 g8 g9 b) (hi : (i : Int) = 4 * b + (g6 b.toNat).toInt) (h9 : ∀ j, j ≠ i → g9' j = g9 j) : TH σ g g5 g6 g7 g8 g9' b := by
  obtain ⟨⟨a1, a2, a3, a4, a5, a6, a7, a8⟩, h2⟩ := h
  exact ⟨⟨a1, a2, a3, a4, a5, a6, a7, fun r hr => by rw [h9 _ (by omega)]; exact a8 r hr⟩, h2⟩
theorem TH_rel {σ : mSig} {g g5 g5' g6 g7 g8 g9 : Nat → Int32} {b c : Int} {i : Nat} (h : TH σ g g5 g6 g7 g8 g9 b) (hc : (g5 b.toNat).toInt = c) (h6 : c < 6) (h5 : (g5' b.toNat).toInt = c + 1) (hi : (i : Int) = 6 * b + c) (h0 : 0 ≤ (g8 i).toInt) (h2' : (g8 i).toInt ≤ 2) : ∃ τ, TH τ g g5' g6 g7 g8 g9 b := by
  obtain ⟨⟨a1, a2, a3, a4, a5, a6, a7, a8⟩, h2⟩ := h
  have hl : sLe σ ((σ.1.1 + 1, σ.1.2), (fun r => if r = σ.1.1 then (g8 i).toInt.toNat else σ.2.1 r, σ.2.2)) := ⟨Nat.le_succ _, Nat.le_refl _, by show σ.1.2 ≤ 20; omega, fun r hr => if_neg (by omega), fun r hr => rfl⟩
  refine ⟨((σ.1.1 + 1, σ.1.2), (fun r => if r = σ.1.1 then (g8 i).toInt.toNat else σ.2.1 r, σ.2.2)), ⟨a1, a2, by show _ = ((σ.1.1 + 1 : Nat) : Int); omega, by show σ.1.1 + 1 ≤ 6; omega, a5, a6, fun r hr => ?_, a8⟩, fun k hk h8 => FmC_ext hl (h2 k hk h8)⟩
  have hr : r < σ.1.1 + 1 := hr
  show _ = (((if r = σ.1.1 then (g8 i).toInt.toNat else σ.2.1 r) : Nat) : Int) ∧ (if r = σ.1.1 then (g8 i).toInt.toNat else σ.2.1 r) ≤ 2
  by_cases e : r = σ.1.1
  · rw [if_pos e, show 6 * b.toNat + r = i from by omega]
    constructor <;> omega
  · rw [if_neg e]
    exact a7 r (by omega)
theorem TH_fun {σ : mSig} {g g5 g6 g6' g7 g8 g9 : Nat → Int32} {b c : Int} {i : Nat} (h : TH σ g g5 g6 g7 g8 g9 b) (hc : (g6 b.toNat).toInt = c) (h4 : c < 4) (h5 : (g6' b.toNat).toInt = c + 1) (hi : (i : Int) = 4 * b + c) (h0 : 0 ≤ (g9 i).toInt) (h2' : (g9 i).toInt ≤ 2) : ∃ τ, TH τ g g5 g6' g7 g8 g9 b := by
  obtain ⟨⟨a1, a2, a3, a4, a5, a6, a7, a8⟩, h2⟩ := h
  have hl : sLe σ ((σ.1.1, σ.1.2 + 1), (σ.2.1, fun r => if r = σ.1.2 then (g9 i).toInt.toNat else σ.2.2 r)) := ⟨Nat.le_refl _, Nat.le_succ _, by show σ.1.2 + 1 ≤ 20; omega, fun r hr => rfl, fun r hr => if_neg (by omega)⟩
  refine ⟨((σ.1.1, σ.1.2 + 1), (σ.2.1, fun r => if r = σ.1.2 then (g9 i).toInt.toNat else σ.2.2 r)), ⟨a1, a2, a3, a4, by show _ = ((σ.1.2 + 1 : Nat) : Int); omega, by show σ.1.2 + 1 ≤ 4; omega, a7, fun r hr => ?_⟩, fun k hk h8 => FmC_ext hl (h2 k hk h8)⟩
  have hr : r < σ.1.2 + 1 := hr
  show _ = (((if r = σ.1.2 then (g9 i).toInt.toNat else σ.2.2 r) : Nat) : Int) ∧ (if r = σ.1.2 then (g9 i).toInt.toNat else σ.2.2 r) ≤ 2
  by_cases e : r = σ.1.2
  · rw [if_pos e, show 4 * b.toNat + r = i from by omega]
    constructor <;> omega
  · rw [if_neg e]
    exact a8 r (by omega)
/-- all but the tables of bank b is as it was -/
def KB (b : Int) (g g5 g6 g7 g8 g9 g' g5' g6' g7' g8' g9' : Nat → Int32) : Prop := (∀ j : Nat, (j : Int) ≠ b → g5' j = g5 j ∧ g6' j = g6 j ∧ g7' j = g7 j) ∧ (∀ j : Nat, (j : Int) < 6 * b ∨ 6 * b + 6 ≤ (j : Int) → g8' j = g8 j) ∧ (∀ j : Nat, (j : Int) < 4 * b ∨ 4 * b + 4 ≤ (j : Int) → g9' j = g9 j) ∧ (∀ k : Nat, (k : Int) < 21812 + 328 * b ∨ 21812 + 328 * b + 328 ≤ (k : Int) → g' k = g k)
section PKB
variable {b : Int} {g g5 g6 g7 g8 g9 g' g5' g6' g7' g8' g9' q : Nat → Int32} {i : Nat}
theorem KB_0 : KB b g g5 g6 g7 g8 g9 g g5 g6 g7 g8 g9 := ⟨fun _ _ => ⟨rfl, rfl, rfl⟩, fun _ _ => rfl, fun _ _ => rfl, fun _ _ => rfl⟩
theorem KB_5 (h : KB b g g5 g6 g7 g8 g9 g' g5' g6' g7' g8' g9') (hi : (i : Int) = b) (hq : ∀ j, j ≠ i → q j = g5' j) : KB b g g5 g6 g7 g8 g9 g' q g6' g7' g8' g9' := ⟨fun j hj => ⟨(hq j (by omega)).trans (h.1 j hj).1, (h.1 j hj).2⟩, h.2⟩
theorem KB_6 (h : KB b g g5 g6 g7 g8 g9 g' g5' g6' g7' g8' g9') (hi : (i : Int) = b) (hq : ∀ j, j ≠ i → q j = g6' j) : KB b g g5 g6 g7 g8 g9 g' g5' q g7' g8' g9' := ⟨fun j hj => ⟨(h.1 j hj).1, (hq j (by omega)).trans (h.1 j hj).2.1, (h.1 j hj).2.2⟩, h.2⟩
theorem KB_7 (h : KB b g g5 g6 g7 g8 g9 g' g5' g6' g7' g8' g9') (hi : (i : Int) = b) (hq : ∀ j, j ≠ i → q j = g7' j) : KB b g g5 g6 g7 g8 g9 g' g5' g6' q g8' g9' := ⟨fun j hj => ⟨(h.1 j hj).1, (h.1 j hj).2.1, (hq j (by omega)).trans (h.1 j hj).2.2⟩, h.2⟩
theorem KB_8 (h : KB b g g5 g6 g7 g8 g9 g' g5' g6' g7' g8' g9') (hi : 6 * b ≤ (i : Int) ∧ (i : Int) < 6 * b + 6) (hq : ∀ j, j ≠ i → q j = g8' j) : KB b g g5 g6 g7 g8 g9 g' g5' g6' g7' q g9' := ⟨h.1, fun j hj => (hq j (by omega)).trans (h.2.1 j hj), h.2.2⟩
theorem KB_9 (h : KB b g g5 g6 g7 g8 g9 g' g5' g6' g7' g8' g9') (hi : 4 * b ≤ (i : Int) ∧ (i : Int) < 4 * b + 4) (hq : ∀ j, j ≠ i → q j = g9' j) : KB b g g5 g6 g7 g8 g9 g' g5' g6' g7' g8' q := ⟨h.1, h.2.1, fun j hj => (hq j (by omega)).trans (h.2.2.1 j hj), h.2.2.2⟩
theorem KB_p {a : Int} (h : KB b g g5 g6 g7 g8 g9 g' g5' g6' g7' g8' g9') (ha : 21812 + 328 * b ≤ a ∧ a + 41 ≤ 21812 + 328 * b + 328) (hq : ∀ j : Nat, (j : Int) < a ∨ a + 41 ≤ (j : Int) → q j = g' j) : KB b g g5 g6 g7 g8 g9 q g5' g6' g7' g8' g9' := ⟨h.1, h.2.1, h.2.2.1, fun j hj => (hq j (by omega)).trans (h.2.2.2 j hj)⟩
theorem KB_b {b' : Int} (h : KB b g g5 g6 g7 g8 g9 g' g5' g6' g7' g8' g9') (e : b' = b) : KB b' g g5 g6 g7 g8 g9 g' g5' g6' g7' g8' g9' := by rw [e]; exact h
theorem MI_bank {σ : mSig} {ga gx : Nat → Int32} {c st th : Int} (h : MI σ g g5 g6 g7 g8 g9 ga gx c st th) (hK : KB b g g5 g6 g7 g8 g9 g' g5' g6' g7' g8' g9') (hb : b = 1 - c) (h40 : st ≤ 40) : MI σ g' g5' g6' g7' g8' g9' ga gx c st th := by
  obtain ⟨⟨b0, b1, a3, a4, a5, a6, a7, a8⟩, h2, h3, h4, h5, h6⟩ := h
  obtain ⟨k1, k2, k3, k4⟩ := hK
  have kk := k1 c.toNat (by omega)
  refine ⟨⟨b0, b1, by rw [kk.1]; exact a3, a4, by rw [kk.2.1]; exact a5, a6, fun r hr => by rw [k2 _ (by omega)]; exact a7 r hr, fun r hr => by rw [k3 _ (by omega)]; exact a8 r hr⟩, PSt_keep h2 h40 (fun k hk => k4 k (by omega)), fun k hk q => Fm_keep (h3 k hk q) (fun j _ _ => k4 j (by omega)), fun k hk q => FmC_keep (h4 k (by rw [← kk.2.2]; exact hk) q) (fun j _ _ => k4 j (by omega)), ?_, fun i k q hk q2 => Fm_keep (h6 i k q hk q2) (fun j _ _ => k4 j (by omega))⟩
  rcases h5 with z | z
  · left; rw [k4 25748 (by omega)]; exact z
  · exact Or.inr (Fm_keep z (fun j _ _ => k4 j (by omega)))
theorem MI_new {σ : mSig} {ga gx : Nat → Int32} {st th : Int} (h : TH σ g g5 g6 g7 g8 g9 b) (hs : st = 0) (ht : th = 0) (hr : (g 25748).toInt = 0) (hx : ∀ i : Nat, i < 3 → (gx i).toInt = -1) : MI σ g g5 g6 g7 g8 g9 ga gx b st th := ⟨h.1, fun j hj => by omega, fun k hk _ => by omega, h.2, Or.inl hr, fun i k q hk _ => by have := hx i q; omega⟩
end PKB
theorem TH_keep {σ : mSig} {g g' g5 g6 g7 g8 g9 : Nat → Int32} {b : Int} (h : TH σ g g5 g6 g7 g8 g9 b) (ho : ∀ k : Nat, (k : Int) < 25748 → g' k = g k) : TH σ g' g5 g6 g7 g8 g9 b := by
  obtain ⟨b0, b1, -⟩ := id h.1
  exact ⟨h.1, fun k hk h8 => FmC_keep (h.2 k hk h8) (fun j _ _ => ho j (by omega))⟩
end
section
set_option maxRecDepth 100000
-- ProofBenchModel.isFull()Z
theorem pg_203_0 {d : Nat} {s : ps_S} {Q : Option Value → ps_S → Prop} (h :
  ps_Cl d 195 [.ref 1131, .long (7497068 : Int64)] s (ps_rI (fun v1 s1 =>
    (v1 = 0 →
      ps_Cl d 195 [.ref 1131, .long (6714734 : Int64)] s1 (ps_rI (fun v2 s2 =>
        (v2 = 0 →
          ps_Cl d 195 [.ref 1131, .long (418632003437 : Int64)] s2 (ps_rI (fun v3 s3 =>
            (v3 = 0 →
              Q (some (.int 1)) s3) ∧
            (v3 ≠ 0 →
              ps_nd (pm_in (ps_i s3 1131 22) 2) (((ps_a s3 1137 (Int32.toNatClampNeg (ps_i s3 1131 22))) ≠ 8 →
                Q (some (.int 0)) s3) ∧
              ((ps_a s3 1137 (Int32.toNatClampNeg (ps_i s3 1131 22))) = 8 →
                Q (some (.int 1)) s3)))))) ∧
        (v2 ≠ 0 →
          ps_nd (pm_in (ps_i s2 1131 22) 2) (((ps_a s2 1136 (Int32.toNatClampNeg (ps_i s2 1131 22))) ≠ 4 →
            Q (some (.int 0)) s2) ∧
          ((ps_a s2 1136 (Int32.toNatClampNeg (ps_i s2 1131 22))) = 4 →
            Q (some (.int 1)) s2)))))) ∧
    (v1 ≠ 0 →
      ps_nd (pm_in (ps_i s1 1131 22) 2) (((ps_a s1 1135 (Int32.toNatClampNeg (ps_i s1 1131 22))) ≠ 6 →
        Q (some (.int 0)) s1) ∧
      ((ps_a s1 1135 (Int32.toNatClampNeg (ps_i s1 1131 22))) = 6 →
        Q (some (.int 1)) s1)))))) : ps_At (d + 1) 203 0 [(0, .ref 1131)] [] s Q :=
  ps_wp_at (stops := []) (n := 53) h rfl

theorem ms_203 {x : Nat → Nat → Nat} {t : Int32} {s : ps_S} {d : Nat} {f : Int32 → ps_S → Prop} (J : mJ x t s) (k : ∀ (v : Int32), (0 ≤ v.toInt) → (v.toInt ≤ 1) → (v.toInt = 0 → (((ps_i s 1131 9).toInt = 3 ∧ (lg_cmp (ps_j s 1131 11) (7497068 : Int64)).toInt = 0) ∧ (ps_a s 1135 (Int32.toNatClampNeg (ps_i s 1131 22))).toInt ≠ 6) ∨ (((ps_i s 1131 9).toInt = 3 ∧ (lg_cmp (ps_j s 1131 11) (6714734 : Int64)).toInt = 0) ∧ (ps_a s 1136 (Int32.toNatClampNeg (ps_i s 1131 22))).toInt ≠ 4) ∨ (((ps_i s 1131 9).toInt = 3 ∧ (lg_cmp (ps_j s 1131 11) (418632003437 : Int64)).toInt = 0) ∧ (ps_a s 1137 (Int32.toNatClampNeg (ps_i s 1131 22))).toInt ≠ 8)) → v &&& 1 = v → f v s) : ps_Cl (d + 1) 203 [.ref 1131] s (ps_rI f) := by
  refine pg_203_0 (d := d) ?_
  refine mx_195 J  (fun v1 p1_0 p1_1 p1_2 p1_3 b1 => ?_)
  have p1_0' : 0 ≤ v1.toInt := p1_0
  have p1_1' : v1.toInt ≤ 1 := p1_1
  have w4 : _ := p1_2
  refine And.intro (fun h2 => ?_) (fun h2 => ?_)
  · have f3 : v1.toInt = (0 : Int) := xeq h2
    refine mx_195 J  (fun v4 p4_0 p4_1 p4_2 p4_3 b4 => ?_)
    have p4_0' : 0 ≤ v4.toInt := p4_0
    have p4_1' : v4.toInt ≤ 1 := p4_1
    have w34 : _ := p4_2
    refine And.intro (fun h5 => ?_) (fun h5 => ?_)
    · have f6 : v4.toInt = (0 : Int) := xeq h5
      refine mx_195 J  (fun v7 p7_0 p7_1 p7_2 p7_3 b7 => ?_)
      have p7_0' : 0 ≤ v7.toInt := p7_0
      have p7_1' : v7.toInt ≤ 1 := p7_1
      have w63 : _ := p7_2
      refine And.intro (fun h8 => ?_) (fun h8 => ?_)
      · have f9 : v7.toInt = (0 : Int) := xeq h8
        exact k (1 : Int32) (show 0 ≤ (1 : Int) from by omega) (show (1 : Int) ≤ 1 from by omega) ((by first | exact fun z => absurd z (by decide) | exact fun _ => Or.inr (Or.inr ⟨w63.resolve_left (by omega), by omega⟩))) (by decide)
      · have f10 : v7.toInt ≠ (0 : Int) := xne h8
        have r11 := mf_22 J
        refine ps_nd_i (show pm_in (ps_i s 1131 22) 2 = true from xgi (show 0 ≤ (ps_i s 1131 22).toInt from by omega) (show (ps_i s 1131 22).toInt < 2 from by omega)) ?_
        have r12 : 0 ≤ (ps_a s 1137 (Int32.toNatClampNeg (ps_i s 1131 22))).toInt ∧ (ps_a s 1137 (Int32.toNatClampNeg (ps_i s 1131 22))).toInt ≤ 8 := ma_1137 (i := (ps_i s 1131 22)) J (show 0 ≤ (ps_i s 1131 22).toInt from by omega) (show (ps_i s 1131 22).toInt < 2 from by omega)
        refine And.intro (fun h13 => ?_) (fun h13 => ?_)
        · have f14 : (ps_a s 1137 (Int32.toNatClampNeg (ps_i s 1131 22))).toInt ≠ (8 : Int) := xne h13
          exact k (0 : Int32) (show 0 ≤ (0 : Int) from by omega) (show (0 : Int) ≤ 1 from by omega) ((by first | exact fun z => absurd z (by decide) | exact fun _ => Or.inr (Or.inr ⟨w63.resolve_left (by omega), by omega⟩))) (by decide)
        · have f15 : (ps_a s 1137 (Int32.toNatClampNeg (ps_i s 1131 22))).toInt = (8 : Int) := xeq h13
          exact k (1 : Int32) (show 0 ≤ (1 : Int) from by omega) (show (1 : Int) ≤ 1 from by omega) ((by first | exact fun z => absurd z (by decide) | exact fun _ => Or.inr (Or.inr ⟨w63.resolve_left (by omega), by omega⟩))) (by decide)
    · have f16 : v4.toInt ≠ (0 : Int) := xne h5
      have r17 := mf_22 J
      refine ps_nd_i (show pm_in (ps_i s 1131 22) 2 = true from xgi (show 0 ≤ (ps_i s 1131 22).toInt from by omega) (show (ps_i s 1131 22).toInt < 2 from by omega)) ?_
      have r18 : 0 ≤ (ps_a s 1136 (Int32.toNatClampNeg (ps_i s 1131 22))).toInt ∧ (ps_a s 1136 (Int32.toNatClampNeg (ps_i s 1131 22))).toInt ≤ 4 := ma_1136 (i := (ps_i s 1131 22)) J (show 0 ≤ (ps_i s 1131 22).toInt from by omega) (show (ps_i s 1131 22).toInt < 2 from by omega)
      refine And.intro (fun h19 => ?_) (fun h19 => ?_)
      · have f20 : (ps_a s 1136 (Int32.toNatClampNeg (ps_i s 1131 22))).toInt ≠ (4 : Int) := xne h19
        exact k (0 : Int32) (show 0 ≤ (0 : Int) from by omega) (show (0 : Int) ≤ 1 from by omega) ((by first | exact fun z => absurd z (by decide) | exact fun _ => Or.inr (Or.inl ⟨w34.resolve_left (by omega), by omega⟩))) (by decide)
      · have f21 : (ps_a s 1136 (Int32.toNatClampNeg (ps_i s 1131 22))).toInt = (4 : Int) := xeq h19
        exact k (1 : Int32) (show 0 ≤ (1 : Int) from by omega) (show (1 : Int) ≤ 1 from by omega) ((by first | exact fun z => absurd z (by decide) | exact fun _ => Or.inr (Or.inl ⟨w34.resolve_left (by omega), by omega⟩))) (by decide)
  · have f22 : v1.toInt ≠ (0 : Int) := xne h2
    have r23 := mf_22 J
    refine ps_nd_i (show pm_in (ps_i s 1131 22) 2 = true from xgi (show 0 ≤ (ps_i s 1131 22).toInt from by omega) (show (ps_i s 1131 22).toInt < 2 from by omega)) ?_
    have r24 : 0 ≤ (ps_a s 1135 (Int32.toNatClampNeg (ps_i s 1131 22))).toInt ∧ (ps_a s 1135 (Int32.toNatClampNeg (ps_i s 1131 22))).toInt ≤ 6 := ma_1135 (i := (ps_i s 1131 22)) J (show 0 ≤ (ps_i s 1131 22).toInt from by omega) (show (ps_i s 1131 22).toInt < 2 from by omega)
    refine And.intro (fun h25 => ?_) (fun h25 => ?_)
    · have f26 : (ps_a s 1135 (Int32.toNatClampNeg (ps_i s 1131 22))).toInt ≠ (6 : Int) := xne h25
      exact k (0 : Int32) (show 0 ≤ (0 : Int) from by omega) (show (0 : Int) ≤ 1 from by omega) ((by first | exact fun z => absurd z (by decide) | exact fun _ => Or.inl ⟨w4.resolve_left (by omega), by omega⟩)) (by decide)
    · have f27 : (ps_a s 1135 (Int32.toNatClampNeg (ps_i s 1131 22))).toInt = (6 : Int) := xeq h25
      exact k (1 : Int32) (show 0 ≤ (1 : Int) from by omega) (show (1 : Int) ≤ 1 from by omega) ((by first | exact fun z => absurd z (by decide) | exact fun _ => Or.inl ⟨w4.resolve_left (by omega), by omega⟩)) (by decide)
end
section
set_option maxRecDepth 100000
-- ProofBenchModel.readLine()V
theorem pg_204_0 {d : Nat} {s : ps_S} {Q : Option Value → ps_S → Prop} (h :
  ps_Cl d 195 [.ref 1131, .long (7497068 : Int64)] s (ps_rI (fun v1 s1 =>
    ps_Cl d 195 [.ref 1131, .long (418632003437 : Int64)] s1 (ps_rI (fun v2 s2 =>
      ps_Cl d 203 [.ref 1131] s2 (ps_rI (fun v3 s3 =>
        (v3 = 0 →
          ps_At (d + 1) 204 27 [(0, .ref 1131), (1, .int v1), (2, .int v2)] [] s3 Q) ∧
        (v3 ≠ 0 →
          ps_Cl d 196 [.ref 1131] s3 (ps_rV (fun s4 =>
            ps_At (d + 1) 204 27 [(0, .ref 1131), (1, .int v1), (2, .int v2)] [] s4 Q)))))))))) : ps_At (d + 1) 204 0 [(0, .ref 1131)] [] s Q :=
  ps_wp_at (stops := [(27, [0, 1, 2]), (82, [0, 1, 2]), (91, [0, 1, 2]), (213, [0, 1, 3]), (271, [0, 1, 3]), (282, [0, 1, 3]), (360, [0])]) (n := 15) h rfl

theorem pg_204_27 {d : Nat} {x1 : Int32} {x2 : Int32} {s : ps_S} {Q : Option Value → ps_S → Prop} (h :
  ps_Cl d 192 [.ref 1131] s (ps_rI (fun v1 s1 =>
    (v1 ≠ 0 →
      ps_Cl d 194 [.ref 1131] s1 (ps_rV (fun s2 =>
        ((ps_i s2 1131 9) = 2 →
          (x2 = 0 →
            ps_Cl d 206 [.ref 1131] s2 (ps_rI (fun v3 s3 =>
              (0 ≤ v3 →
                ps_At (d + 1) 204 82 [(0, .ref 1131), (1, .int x1), (2, .int x2)] [] s3 Q) ∧
              (v3 < 0 →
                ps_Cl d 207 [.ref 1131] s3 (ps_rI (fun v4 s4 =>
                  (v4 < 0 →
                    ps_At (d + 1) 204 91 [(0, .ref 1131), (1, .int x1), (2, .int x2)] [] s4 Q) ∧
                  (0 ≤ v4 →
                    ps_At (d + 1) 204 82 [(0, .ref 1131), (1, .int x1), (2, .int x2)] [] s4 Q))))))) ∧
          (x2 ≠ 0 →
            ps_Cl d 205 [.ref 1131] s2 (ps_rI (fun v5 s5 =>
              (v5 < 0 →
                ps_At (d + 1) 204 91 [(0, .ref 1131), (1, .int x1), (2, .int x2)] [] s5 Q) ∧
              (0 ≤ v5 →
                ps_At (d + 1) 204 82 [(0, .ref 1131), (1, .int x1), (2, .int x2)] [] s5 Q))))) ∧
        ((ps_i s2 1131 9) ≠ 2 →
          ps_Cl d 196 [.ref 1131] s2 (ps_rV (fun s6 =>
            ps_At (d + 1) 204 91 [(0, .ref 1131), (1, .int x1), (2, .int x2)] [] s6 Q)))))) ∧
    (v1 = 0 →
      Q none s1)))) : ps_At (d + 1) 204 27 [(0, .ref 1131), (1, .int x1), (2, .int x2)] [] s Q :=
  ps_wp_at (stops := [(27, [0, 1, 2]), (82, [0, 1, 2]), (91, [0, 1, 2]), (213, [0, 1, 3]), (271, [0, 1, 3]), (282, [0, 1, 3]), (360, [0])]) (n := 27) h rfl

theorem pg_204_82 {d : Nat} {x1 : Int32} {x2 : Int32} {s : ps_S} {Q : Option Value → ps_S → Prop} (h :
  ps_Cl d 191 [.ref 1131, .int 3, .int (ps_i s 1131 7)] s (ps_rV (fun s1 =>
    ps_At (d + 1) 204 91 [(0, .ref 1131), (1, .int x1), (2, .int x2)] [] s1 Q))) : ps_At (d + 1) 204 82 [(0, .ref 1131), (1, .int x1), (2, .int x2)] [] s Q :=
  ps_wp_at (stops := [(27, [0, 1, 2]), (82, [0, 1, 2]), (91, [0, 1, 2]), (213, [0, 1, 3]), (271, [0, 1, 3]), (282, [0, 1, 3]), (360, [0])]) (n := 7) h rfl

theorem pg_204_91 {d : Nat} {x1 : Int32} {x2 : Int32} {s : ps_S} {Q : Option Value → ps_S → Prop} (h :
  ps_Cl d 192 [.ref 1131] s (ps_rI (fun v1 s1 =>
    (v1 ≠ 0 →
      ps_Cl d 194 [.ref 1131] s1 (ps_rV (fun s2 =>
        (x2 = 0 →
          ((ps_i s2 1131 9) = 4 →
            ((ps_i s2 1131 10) ≤ 2 →
              ps_At (d + 1) 204 213 [(0, .ref 1131), (1, .int x1), (3, .long (ps_j s1 1131 11))] [] s2 Q) ∧
            (2 < (ps_i s2 1131 10) →
              ps_Cl d 191 [.ref 1131, .int 4, .int (ps_i s2 1131 7)] s2 (ps_rV (fun s3 =>
                ps_At (d + 1) 204 213 [(0, .ref 1131), (1, .int x1), (3, .long (ps_j s1 1131 11))] [] s3 Q)))) ∧
          ((ps_i s2 1131 9) ≠ 4 →
            ps_Cl d 196 [.ref 1131] s2 (ps_rV (fun s4 =>
              ps_At (d + 1) 204 213 [(0, .ref 1131), (1, .int x1), (3, .long (ps_j s1 1131 11))] [] s4 Q)))) ∧
        (x2 ≠ 0 →
          ps_nd (pm_in (ps_i s2 1131 22) 2) (ps_nd (pm_in (((8 : Int32) * (ps_i s2 1131 22)) + (ps_a s2 1137 (Int32.toNatClampNeg (ps_i s2 1131 22)))) 16) (ps_nd (pm_in (ps_i (ps_ub s2 1142 (Int32.toNatClampNeg (((8 : Int32) * (ps_i s2 1131 22)) + (ps_a s2 1137 (Int32.toNatClampNeg (ps_i s2 1131 22))))) (ps_j s1 1131 11)) 1131 22) 2) (ps_Cl d 209 [.ref 1131, .int ((21812 : Int32) + ((41 : Int32) * (((8 : Int32) * (ps_i (ps_ub s2 1142 (Int32.toNatClampNeg (((8 : Int32) * (ps_i s2 1131 22)) + (ps_a s2 1137 (Int32.toNatClampNeg (ps_i s2 1131 22))))) (ps_j s1 1131 11)) 1131 22)) + (ps_a (ps_ub s2 1142 (Int32.toNatClampNeg (((8 : Int32) * (ps_i s2 1131 22)) + (ps_a s2 1137 (Int32.toNatClampNeg (ps_i s2 1131 22))))) (ps_j s1 1131 11)) 1137 (Int32.toNatClampNeg (ps_i (ps_ub s2 1142 (Int32.toNatClampNeg (((8 : Int32) * (ps_i s2 1131 22)) + (ps_a s2 1137 (Int32.toNatClampNeg (ps_i s2 1131 22))))) (ps_j s1 1131 11)) 1131 22)))))), .int 1, .int 1] (ps_ub s2 1142 (Int32.toNatClampNeg (((8 : Int32) * (ps_i s2 1131 22)) + (ps_a s2 1137 (Int32.toNatClampNeg (ps_i s2 1131 22))))) (ps_j s1 1131 11)) (ps_rV (fun s5 =>
            ps_nd (pm_in (ps_i s5 1131 22) 2) (ps_nd (pm_in (ps_i s5 1131 22) 2) (ps_At (d + 1) 204 360 [(0, .ref 1131)] [] (ps_ua s5 1137 (Int32.toNatClampNeg (ps_i s5 1131 22)) ((ps_a s5 1137 (Int32.toNatClampNeg (ps_i s5 1131 22))) + 1)) Q))))))))))) ∧
    (v1 = 0 →
      Q none s1)))) : ps_At (d + 1) 204 91 [(0, .ref 1131), (1, .int x1), (2, .int x2)] [] s Q :=
  ps_wp_at (stops := [(27, [0, 1, 2]), (82, [0, 1, 2]), (91, [0, 1, 2]), (213, [0, 1, 3]), (271, [0, 1, 3]), (282, [0, 1, 3]), (360, [0])]) (n := 71) h rfl

theorem pg_204_213 {d : Nat} {x1 : Int32} {l3 : Int64} {s : ps_S} {Q : Option Value → ps_S → Prop} (h :
  (x1 = 0 →
    ps_nd (pm_in (ps_i s 1131 22) 2) (ps_nd (pm_in (((4 : Int32) * (ps_i s 1131 22)) + (ps_a s 1136 (Int32.toNatClampNeg (ps_i s 1131 22)))) 8) (ps_At (d + 1) 204 271 [(0, .ref 1131), (1, .int x1), (3, .long l3)] [] (ps_ua s 1139 (Int32.toNatClampNeg (((4 : Int32) * (ps_i s 1131 22)) + (ps_a s 1136 (Int32.toNatClampNeg (ps_i s 1131 22))))) (ps_i s 1131 10)) Q))) ∧
  (x1 ≠ 0 →
    ps_nd (pm_in (ps_i s 1131 22) 2) (ps_nd (pm_in (((6 : Int32) * (ps_i s 1131 22)) + (ps_a s 1135 (Int32.toNatClampNeg (ps_i s 1131 22)))) 12) (ps_At (d + 1) 204 271 [(0, .ref 1131), (1, .int x1), (3, .long l3)] [] (ps_ua s 1138 (Int32.toNatClampNeg (((6 : Int32) * (ps_i s 1131 22)) + (ps_a s 1135 (Int32.toNatClampNeg (ps_i s 1131 22))))) (ps_i s 1131 10)) Q)))) : ps_At (d + 1) 204 213 [(0, .ref 1131), (1, .int x1), (3, .long l3)] [] s Q :=
  ps_wp_at (stops := [(27, [0, 1, 2]), (82, [0, 1, 2]), (91, [0, 1, 2]), (213, [0, 1, 3]), (271, [0, 1, 3]), (282, [0, 1, 3]), (360, [0])]) (n := 35) h rfl

theorem pg_204_271 {d : Nat} {x1 : Int32} {l3 : Int64} {s : ps_S} {Q : Option Value → ps_S → Prop} (h :
  ps_Cl d 192 [.ref 1131] s (ps_rI (fun v1 s1 =>
    (v1 = 0 →
      ps_At (d + 1) 204 282 [(0, .ref 1131), (1, .int x1), (3, .long l3)] [] s1 Q) ∧
    (v1 ≠ 0 →
      ps_Cl d 194 [.ref 1131] s1 (ps_rV (fun s2 =>
        ps_At (d + 1) 204 282 [(0, .ref 1131), (1, .int x1), (3, .long l3)] [] s2 Q)))))) : ps_At (d + 1) 204 271 [(0, .ref 1131), (1, .int x1), (3, .long l3)] [] s Q :=
  ps_wp_at (stops := [(27, [0, 1, 2]), (82, [0, 1, 2]), (91, [0, 1, 2]), (213, [0, 1, 3]), (271, [0, 1, 3]), (282, [0, 1, 3]), (360, [0])]) (n := 7) h rfl

theorem pg_204_282 {d : Nat} {x1 : Int32} {l3 : Int64} {s : ps_S} {Q : Option Value → ps_S → Prop} (h :
  (x1 = 0 →
    ps_nd (pm_in (ps_i s 1131 22) 2) (ps_nd (pm_in (((4 : Int32) * (ps_i s 1131 22)) + (ps_a s 1136 (Int32.toNatClampNeg (ps_i s 1131 22)))) 8) (ps_nd (pm_in (ps_i (ps_ub s 1141 (Int32.toNatClampNeg (((4 : Int32) * (ps_i s 1131 22)) + (ps_a s 1136 (Int32.toNatClampNeg (ps_i s 1131 22))))) l3) 1131 22) 2) (ps_nd (pm_in (ps_i (ps_ub s 1141 (Int32.toNatClampNeg (((4 : Int32) * (ps_i s 1131 22)) + (ps_a s 1136 (Int32.toNatClampNeg (ps_i s 1131 22))))) l3) 1131 22) 2) (ps_At (d + 1) 204 360 [(0, .ref 1131)] [] (ps_ua (ps_ub s 1141 (Int32.toNatClampNeg (((4 : Int32) * (ps_i s 1131 22)) + (ps_a s 1136 (Int32.toNatClampNeg (ps_i s 1131 22))))) l3) 1136 (Int32.toNatClampNeg (ps_i (ps_ub s 1141 (Int32.toNatClampNeg (((4 : Int32) * (ps_i s 1131 22)) + (ps_a s 1136 (Int32.toNatClampNeg (ps_i s 1131 22))))) l3) 1131 22)) ((ps_a (ps_ub s 1141 (Int32.toNatClampNeg (((4 : Int32) * (ps_i s 1131 22)) + (ps_a s 1136 (Int32.toNatClampNeg (ps_i s 1131 22))))) l3) 1136 (Int32.toNatClampNeg (ps_i (ps_ub s 1141 (Int32.toNatClampNeg (((4 : Int32) * (ps_i s 1131 22)) + (ps_a s 1136 (Int32.toNatClampNeg (ps_i s 1131 22))))) l3) 1131 22))) + 1)) Q))))) ∧
  (x1 ≠ 0 →
    ps_nd (pm_in (ps_i s 1131 22) 2) (ps_nd (pm_in (((6 : Int32) * (ps_i s 1131 22)) + (ps_a s 1135 (Int32.toNatClampNeg (ps_i s 1131 22)))) 12) (ps_nd (pm_in (ps_i (ps_ub s 1140 (Int32.toNatClampNeg (((6 : Int32) * (ps_i s 1131 22)) + (ps_a s 1135 (Int32.toNatClampNeg (ps_i s 1131 22))))) l3) 1131 22) 2) (ps_nd (pm_in (ps_i (ps_ub s 1140 (Int32.toNatClampNeg (((6 : Int32) * (ps_i s 1131 22)) + (ps_a s 1135 (Int32.toNatClampNeg (ps_i s 1131 22))))) l3) 1131 22) 2) (ps_At (d + 1) 204 360 [(0, .ref 1131)] [] (ps_ua (ps_ub s 1140 (Int32.toNatClampNeg (((6 : Int32) * (ps_i s 1131 22)) + (ps_a s 1135 (Int32.toNatClampNeg (ps_i s 1131 22))))) l3) 1135 (Int32.toNatClampNeg (ps_i (ps_ub s 1140 (Int32.toNatClampNeg (((6 : Int32) * (ps_i s 1131 22)) + (ps_a s 1135 (Int32.toNatClampNeg (ps_i s 1131 22))))) l3) 1131 22)) ((ps_a (ps_ub s 1140 (Int32.toNatClampNeg (((6 : Int32) * (ps_i s 1131 22)) + (ps_a s 1135 (Int32.toNatClampNeg (ps_i s 1131 22))))) l3) 1135 (Int32.toNatClampNeg (ps_i (ps_ub s 1140 (Int32.toNatClampNeg (((6 : Int32) * (ps_i s 1131 22)) + (ps_a s 1135 (Int32.toNatClampNeg (ps_i s 1131 22))))) l3) 1131 22))) + 1)) Q)))))) : ps_At (d + 1) 204 282 [(0, .ref 1131), (1, .int x1), (3, .long l3)] [] s Q :=
  ps_wp_at (stops := [(27, [0, 1, 2]), (82, [0, 1, 2]), (91, [0, 1, 2]), (213, [0, 1, 3]), (271, [0, 1, 3]), (282, [0, 1, 3]), (360, [0])]) (n := 51) h rfl

theorem pg_204_360 {d : Nat} {s : ps_S} {Q : Option Value → ps_S → Prop} (h :
  ((ps_i s 1131 9) ≠ 5 →
    ps_Cl d 197 [.ref 1131, .int 0] s (ps_rV (fun s1 =>
      Q none s1))) ∧
  ((ps_i s 1131 9) = 5 →
    ps_Cl d 197 [.ref 1131, .int 1] s (ps_rV (fun s2 =>
      Q none s2)))) : ps_At (d + 1) 204 360 [(0, .ref 1131)] [] s Q :=
  ps_wp_at (stops := [(27, [0, 1, 2]), (82, [0, 1, 2]), (91, [0, 1, 2]), (213, [0, 1, 3]), (271, [0, 1, 3]), (282, [0, 1, 3]), (360, [0])]) (n := 14) h rfl

theorem ms_204_360 {x : Nat → Nat → Nat} {t : Int32} {d : Nat} {s0 : ps_S} {σ : mSig} {c5 c6 c7 : Int} {Q : Option Value → ps_S → Prop} (k : ∀ (s' : ps_S), mJ x t s' → kp [1134, 1135, 1136, 1137, 1138, 1139, 1140, 1141, 1142, 1143, 1144, 1145, 1146, 1147, 1148] [5, 6, 7, 8, 9, 10, 11, 23, 29, 30, 31, 32] s0 s' → ((ps_i s' 1131 8).toInt ≤ (ps_i s' 1131 4).toInt) → (1 ≤ (ps_i s' 1131 5).toInt ∨ ∃ τ, TH τ (ps_a s' 1134) (ps_a s' 1135) (ps_a s' 1136) (ps_a s' 1137) (ps_a s' 1138) (ps_a s' 1139) (ps_i s' 1131 22).toInt) → (KB (ps_i s' 1131 22).toInt (ps_a s0 1134) (ps_a s0 1135) (ps_a s0 1136) (ps_a s0 1137) (ps_a s0 1138) (ps_a s0 1139) (ps_a s' 1134) (ps_a s' 1135) (ps_a s' 1136) (ps_a s' 1137) (ps_a s' 1138) (ps_a s' 1139)) → (1 ≤ (ps_i s' 1131 5).toInt ∨ (ps_a s' 1135 (Int32.toNatClampNeg (ps_i s' 1131 22))).toInt + (ps_a s' 1136 (Int32.toNatClampNeg (ps_i s' 1131 22))).toInt + (ps_a s' 1137 (Int32.toNatClampNeg (ps_i s' 1131 22))).toInt = c5 + c6 + c7 + 1) → (c5 + c6 + c7 ≤ (ps_a s' 1135 (Int32.toNatClampNeg (ps_i s' 1131 22))).toInt + (ps_a s' 1136 (Int32.toNatClampNeg (ps_i s' 1131 22))).toInt + (ps_a s' 1137 (Int32.toNatClampNeg (ps_i s' 1131 22))).toInt) → Q none s') (s : ps_S) (J : mJ x t s) (K : kp [1134, 1135, 1136, 1137, 1138, 1139, 1140, 1141, 1142, 1143, 1144, 1145, 1146, 1147, 1148] [5, 6, 7, 8, 9, 10, 11, 23, 29, 30, 31, 32] s0 s) (i0 : (ps_i s 1131 8).toInt ≤ (ps_i s 1131 4).toInt) (i1 : 1 ≤ (ps_i s 1131 5).toInt ∨ ∃ τ, TH τ (ps_a s 1134) (ps_a s 1135) (ps_a s 1136) (ps_a s 1137) (ps_a s 1138) (ps_a s 1139) (ps_i s 1131 22).toInt) (hK : KB (ps_i s 1131 22).toInt (ps_a s0 1134) (ps_a s0 1135) (ps_a s0 1136) (ps_a s0 1137) (ps_a s0 1138) (ps_a s0 1139) (ps_a s 1134) (ps_a s 1135) (ps_a s 1136) (ps_a s 1137) (ps_a s 1138) (ps_a s 1139)) (i3 : 1 ≤ (ps_i s 1131 5).toInt ∨ (ps_a s 1135 (Int32.toNatClampNeg (ps_i s 1131 22))).toInt + (ps_a s 1136 (Int32.toNatClampNeg (ps_i s 1131 22))).toInt + (ps_a s 1137 (Int32.toNatClampNeg (ps_i s 1131 22))).toInt = c5 + c6 + c7 + 1) (i4 : c5 + c6 + c7 ≤ (ps_a s 1135 (Int32.toNatClampNeg (ps_i s 1131 22))).toInt + (ps_a s 1136 (Int32.toNatClampNeg (ps_i s 1131 22))).toInt + (ps_a s 1137 (Int32.toNatClampNeg (ps_i s 1131 22))).toInt) (i5 : (ps_i s 1131 22).toInt = (ps_i s0 1131 22).toInt) : ps_At (d + 6) 204 360 [(0, .ref 1131)] [] s Q := by
  have r1 := mf_8 J
  have r2 := mf_4 J
  have r3 := mf_22 J
  refine pg_204_360 (d := d + 5) ?_
  have hI1 : 1 ≤ (ps_i s 1131 5).toInt ∨ ∃ τ, TH τ (ps_a s 1134) (ps_a s 1135) (ps_a s 1136) (ps_a s 1137) (ps_a s 1138) (ps_a s 1139) (ps_i s 1131 22).toInt := i1
  have hI3 : 1 ≤ (ps_i s 1131 5).toInt ∨ (ps_a s 1135 (Int32.toNatClampNeg (ps_i s 1131 22))).toInt + (ps_a s 1136 (Int32.toNatClampNeg (ps_i s 1131 22))).toInt + (ps_a s 1137 (Int32.toNatClampNeg (ps_i s 1131 22))).toInt = c5 + c6 + c7 + 1 := i3
  have hI4 : c5 + c6 + c7 ≤ (ps_a s 1135 (Int32.toNatClampNeg (ps_i s 1131 22))).toInt + (ps_a s 1136 (Int32.toNatClampNeg (ps_i s 1131 22))).toInt + (ps_a s 1137 (Int32.toNatClampNeg (ps_i s 1131 22))).toInt := i4
  have r4 := mf_9 J
  refine And.intro (fun h5 => ?_) (fun h5 => ?_)
  · have f6 : (ps_i s 1131 9).toInt ≠ (5 : Int) := xne h5
    refine ms_197 J (show (ps_i s 1131 8).toInt ≤ (ps_i s 1131 4).toInt from by omega) (fun s7 J7 K7 p7_0 p7_1 p7_2 => ?_)
    have K8 := kpt K K7 rfl rfl
    have KC := K7
    have hK : KB (ps_i s7 1131 22).toInt (ps_a s0 1134) (ps_a s0 1135) (ps_a s0 1136) (ps_a s0 1137) (ps_a s0 1138) (ps_a s0 1139) (ps_a s7 1134) (ps_a s7 1135) (ps_a s7 1136) (ps_a s7 1137) (ps_a s7 1138) (ps_a s7 1139) := by rw [show ps_a s7 1134 = ps_a s 1134 from (K7.2 1134 rfl).1, show ps_a s7 1135 = ps_a s 1135 from (K7.2 1135 rfl).1, show ps_a s7 1136 = ps_a s 1136 from (K7.2 1136 rfl).1, show ps_a s7 1137 = ps_a s 1137 from (K7.2 1137 rfl).1, show ps_a s7 1138 = ps_a s 1138 from (K7.2 1138 rfl).1, show ps_a s7 1139 = ps_a s 1139 from (K7.2 1139 rfl).1, show ps_i s7 1131 22 = ps_i s 1131 22 from kp_i K7 22 rfl]; exact hK
    have hI1 : 1 ≤ (ps_i s 1131 5).toInt ∨ ∃ τ, TH τ (ps_a s7 1134) (ps_a s7 1135) (ps_a s7 1136) (ps_a s7 1137) (ps_a s7 1138) (ps_a s7 1139) (ps_i s7 1131 22).toInt := by rw [show ps_a s7 1134 = ps_a s 1134 from (K7.2 1134 rfl).1, show ps_a s7 1135 = ps_a s 1135 from (K7.2 1135 rfl).1, show ps_a s7 1136 = ps_a s 1136 from (K7.2 1136 rfl).1, show ps_a s7 1137 = ps_a s 1137 from (K7.2 1137 rfl).1, show ps_a s7 1138 = ps_a s 1138 from (K7.2 1138 rfl).1, show ps_a s7 1139 = ps_a s 1139 from (K7.2 1139 rfl).1, show ps_i s7 1131 22 = ps_i s 1131 22 from kp_i K7 22 rfl]; exact hI1
    have hI3 : 1 ≤ (ps_i s 1131 5).toInt ∨ (ps_a s7 1135 (Int32.toNatClampNeg (ps_i s7 1131 22))).toInt + (ps_a s7 1136 (Int32.toNatClampNeg (ps_i s7 1131 22))).toInt + (ps_a s7 1137 (Int32.toNatClampNeg (ps_i s7 1131 22))).toInt = c5 + c6 + c7 + 1 := by rw [show ps_a s7 1135 = ps_a s 1135 from (K7.2 1135 rfl).1, show ps_a s7 1136 = ps_a s 1136 from (K7.2 1136 rfl).1, show ps_a s7 1137 = ps_a s 1137 from (K7.2 1137 rfl).1, show ps_i s7 1131 22 = ps_i s 1131 22 from kp_i K7 22 rfl]; exact hI3
    have hI4 : c5 + c6 + c7 ≤ (ps_a s7 1135 (Int32.toNatClampNeg (ps_i s7 1131 22))).toInt + (ps_a s7 1136 (Int32.toNatClampNeg (ps_i s7 1131 22))).toInt + (ps_a s7 1137 (Int32.toNatClampNeg (ps_i s7 1131 22))).toInt := by rw [show ps_a s7 1135 = ps_a s 1135 from (K7.2 1135 rfl).1, show ps_a s7 1136 = ps_a s 1136 from (K7.2 1136 rfl).1, show ps_a s7 1137 = ps_a s 1137 from (K7.2 1137 rfl).1, show ps_i s7 1131 22 = ps_i s 1131 22 from kp_i K7 22 rfl]; exact hI4
    have p7_0' : (ps_i s7 1131 8).toInt ≤ (ps_i s7 1131 4).toInt := p7_0
    have r9 := mf_8 J7
    have r10 := mf_4 J7
    have u11 : (ps_i s7 1131 4).toInt = (ps_i s 1131 4).toInt := xeq (kp_i K7 4 rfl)
    have p7_1' : 1 ≤ (ps_i s 1131 5).toInt → 1 ≤ (ps_i s7 1131 5).toInt := p7_1
    have r12 := mf_5 J7
    have r13 := mf_5 J
    have p7_2' : (0 : Int) = 0 → 1 ≤ (ps_i s7 1131 5).toInt := p7_2
    exact k _ J7 K8 (show (ps_i s7 1131 8).toInt ≤ (ps_i s7 1131 4).toInt from by omega) (hI1.imp (fun z => (show 1 ≤ (ps_i s7 1131 5).toInt from by omega)) id) (hK) (hI3.imp (fun z => (show 1 ≤ (ps_i s7 1131 5).toInt from by omega)) id) (hI4)
  · have f14 : (ps_i s 1131 9).toInt = (5 : Int) := xeq h5
    refine ms_197 J (show (ps_i s 1131 8).toInt ≤ (ps_i s 1131 4).toInt from by omega) (fun s15 J15 K15 p15_0 p15_1 p15_2 => ?_)
    have K16 := kpt K K15 rfl rfl
    have KC := K15
    have hK : KB (ps_i s15 1131 22).toInt (ps_a s0 1134) (ps_a s0 1135) (ps_a s0 1136) (ps_a s0 1137) (ps_a s0 1138) (ps_a s0 1139) (ps_a s15 1134) (ps_a s15 1135) (ps_a s15 1136) (ps_a s15 1137) (ps_a s15 1138) (ps_a s15 1139) := by rw [show ps_a s15 1134 = ps_a s 1134 from (K15.2 1134 rfl).1, show ps_a s15 1135 = ps_a s 1135 from (K15.2 1135 rfl).1, show ps_a s15 1136 = ps_a s 1136 from (K15.2 1136 rfl).1, show ps_a s15 1137 = ps_a s 1137 from (K15.2 1137 rfl).1, show ps_a s15 1138 = ps_a s 1138 from (K15.2 1138 rfl).1, show ps_a s15 1139 = ps_a s 1139 from (K15.2 1139 rfl).1, show ps_i s15 1131 22 = ps_i s 1131 22 from kp_i K15 22 rfl]; exact hK
    have hI1 : 1 ≤ (ps_i s 1131 5).toInt ∨ ∃ τ, TH τ (ps_a s15 1134) (ps_a s15 1135) (ps_a s15 1136) (ps_a s15 1137) (ps_a s15 1138) (ps_a s15 1139) (ps_i s15 1131 22).toInt := by rw [show ps_a s15 1134 = ps_a s 1134 from (K15.2 1134 rfl).1, show ps_a s15 1135 = ps_a s 1135 from (K15.2 1135 rfl).1, show ps_a s15 1136 = ps_a s 1136 from (K15.2 1136 rfl).1, show ps_a s15 1137 = ps_a s 1137 from (K15.2 1137 rfl).1, show ps_a s15 1138 = ps_a s 1138 from (K15.2 1138 rfl).1, show ps_a s15 1139 = ps_a s 1139 from (K15.2 1139 rfl).1, show ps_i s15 1131 22 = ps_i s 1131 22 from kp_i K15 22 rfl]; exact hI1
    have hI3 : 1 ≤ (ps_i s 1131 5).toInt ∨ (ps_a s15 1135 (Int32.toNatClampNeg (ps_i s15 1131 22))).toInt + (ps_a s15 1136 (Int32.toNatClampNeg (ps_i s15 1131 22))).toInt + (ps_a s15 1137 (Int32.toNatClampNeg (ps_i s15 1131 22))).toInt = c5 + c6 + c7 + 1 := by rw [show ps_a s15 1135 = ps_a s 1135 from (K15.2 1135 rfl).1, show ps_a s15 1136 = ps_a s 1136 from (K15.2 1136 rfl).1, show ps_a s15 1137 = ps_a s 1137 from (K15.2 1137 rfl).1, show ps_i s15 1131 22 = ps_i s 1131 22 from kp_i K15 22 rfl]; exact hI3
    have hI4 : c5 + c6 + c7 ≤ (ps_a s15 1135 (Int32.toNatClampNeg (ps_i s15 1131 22))).toInt + (ps_a s15 1136 (Int32.toNatClampNeg (ps_i s15 1131 22))).toInt + (ps_a s15 1137 (Int32.toNatClampNeg (ps_i s15 1131 22))).toInt := by rw [show ps_a s15 1135 = ps_a s 1135 from (K15.2 1135 rfl).1, show ps_a s15 1136 = ps_a s 1136 from (K15.2 1136 rfl).1, show ps_a s15 1137 = ps_a s 1137 from (K15.2 1137 rfl).1, show ps_i s15 1131 22 = ps_i s 1131 22 from kp_i K15 22 rfl]; exact hI4
    have p15_0' : (ps_i s15 1131 8).toInt ≤ (ps_i s15 1131 4).toInt := p15_0
    have r17 := mf_8 J15
    have r18 := mf_4 J15
    have u19 : (ps_i s15 1131 4).toInt = (ps_i s 1131 4).toInt := xeq (kp_i K15 4 rfl)
    have p15_1' : 1 ≤ (ps_i s 1131 5).toInt → 1 ≤ (ps_i s15 1131 5).toInt := p15_1
    have r20 := mf_5 J15
    have r21 := mf_5 J
    have p15_2' : (1 : Int) = 0 → 1 ≤ (ps_i s15 1131 5).toInt := p15_2
    exact k _ J15 K16 (show (ps_i s15 1131 8).toInt ≤ (ps_i s15 1131 4).toInt from by omega) (hI1.imp (fun z => (show 1 ≤ (ps_i s15 1131 5).toInt from by omega)) id) (hK) (hI3.imp (fun z => (show 1 ≤ (ps_i s15 1131 5).toInt from by omega)) id) (hI4)

theorem ms_204_282 {x : Nat → Nat → Nat} {t : Int32} {d : Nat} {s0 : ps_S} {σ : mSig} {c5 c6 c7 : Int} {Q : Option Value → ps_S → Prop} (k : ∀ (s' : ps_S), mJ x t s' → kp [1134, 1135, 1136, 1137, 1138, 1139, 1140, 1141, 1142, 1143, 1144, 1145, 1146, 1147, 1148] [5, 6, 7, 8, 9, 10, 11, 23, 29, 30, 31, 32] s0 s' → ((ps_i s' 1131 8).toInt ≤ (ps_i s' 1131 4).toInt) → (1 ≤ (ps_i s' 1131 5).toInt ∨ ∃ τ, TH τ (ps_a s' 1134) (ps_a s' 1135) (ps_a s' 1136) (ps_a s' 1137) (ps_a s' 1138) (ps_a s' 1139) (ps_i s' 1131 22).toInt) → (KB (ps_i s' 1131 22).toInt (ps_a s0 1134) (ps_a s0 1135) (ps_a s0 1136) (ps_a s0 1137) (ps_a s0 1138) (ps_a s0 1139) (ps_a s' 1134) (ps_a s' 1135) (ps_a s' 1136) (ps_a s' 1137) (ps_a s' 1138) (ps_a s' 1139)) → (1 ≤ (ps_i s' 1131 5).toInt ∨ (ps_a s' 1135 (Int32.toNatClampNeg (ps_i s' 1131 22))).toInt + (ps_a s' 1136 (Int32.toNatClampNeg (ps_i s' 1131 22))).toInt + (ps_a s' 1137 (Int32.toNatClampNeg (ps_i s' 1131 22))).toInt = c5 + c6 + c7 + 1) → (c5 + c6 + c7 ≤ (ps_a s' 1135 (Int32.toNatClampNeg (ps_i s' 1131 22))).toInt + (ps_a s' 1136 (Int32.toNatClampNeg (ps_i s' 1131 22))).toInt + (ps_a s' 1137 (Int32.toNatClampNeg (ps_i s' 1131 22))).toInt) → Q none s') (x1 : Int32) (l3 : Int64) (s : ps_S) (J : mJ x t s) (K : kp [1134, 1135, 1136, 1137, 1138, 1139, 1140, 1141, 1142, 1143, 1144, 1145, 1146, 1147, 1148] [5, 6, 7, 8, 9, 10, 11, 23, 29, 30, 31, 32] s0 s) (hT : TH σ (ps_a s 1134) (ps_a s 1135) (ps_a s 1136) (ps_a s 1137) (ps_a s 1138) (ps_a s 1139) (ps_i s 1131 22).toInt) (hK : KB (ps_i s 1131 22).toInt (ps_a s0 1134) (ps_a s0 1135) (ps_a s0 1136) (ps_a s0 1137) (ps_a s0 1138) (ps_a s0 1139) (ps_a s 1134) (ps_a s 1135) (ps_a s 1136) (ps_a s 1137) (ps_a s 1138) (ps_a s 1139)) (hC5 : (ps_a s 1135 (Int32.toNatClampNeg (ps_i s 1131 22))).toInt = c5) (hC6 : (ps_a s 1136 (Int32.toNatClampNeg (ps_i s 1131 22))).toInt = c6) (hC7 : (ps_a s 1137 (Int32.toNatClampNeg (ps_i s 1131 22))).toInt = c7) (i5 : (ps_i s 1131 8).toInt ≤ (ps_i s 1131 4).toInt) (i6 : (ps_i s 1131 22).toInt = (ps_i s0 1131 22).toInt) (i7 : (x1.toInt ≠ 0 ∧ c5 < 6) ∨ (x1.toInt = 0 ∧ c6 < 4)) (hN : 1 ≤ (ps_i s 1131 5).toInt ∨ ((x1.toInt ≠ 0 → 0 ≤ (ps_a s 1138 (6 * (ps_i s 1131 22).toInt.toNat + c5.toNat)).toInt ∧ (ps_a s 1138 (6 * (ps_i s 1131 22).toInt.toNat + c5.toNat)).toInt ≤ 2) ∧ (x1.toInt = 0 → 0 ≤ (ps_a s 1139 (4 * (ps_i s 1131 22).toInt.toNat + c6.toNat)).toInt ∧ (ps_a s 1139 (4 * (ps_i s 1131 22).toInt.toNat + c6.toNat)).toInt ≤ 2))) : ps_At (d + 6) 204 282 [(0, .ref 1131), (1, .int x1), (3, .long l3)] [] s Q := by
  have r1 := mf_8 J
  have r2 := mf_4 J
  have r3 := mf_22 J
  refine pg_204_282 (d := d + 5) ?_
  refine And.intro (fun h4 => ?_) (fun h4 => ?_)
  · have f5 : x1.toInt = (0 : Int) := xeq h4
    have a6 : ((4 : Int32) * (ps_i s 1131 22)).toInt = (4 : Int) * (ps_i s 1131 22).toInt := xIm (show -2147483648 ≤ (4 : Int) * (ps_i s 1131 22).toInt from by omega) (show (4 : Int) * (ps_i s 1131 22).toInt < 2147483648 from by omega)
    refine ps_nd_i (show pm_in (ps_i s 1131 22) 2 = true from xgi (show 0 ≤ (ps_i s 1131 22).toInt from by omega) (show (ps_i s 1131 22).toInt < 2 from by omega)) ?_
    have r7 : 0 ≤ (ps_a s 1136 (Int32.toNatClampNeg (ps_i s 1131 22))).toInt ∧ (ps_a s 1136 (Int32.toNatClampNeg (ps_i s 1131 22))).toInt ≤ 4 := ma_1136 (i := (ps_i s 1131 22)) J (show 0 ≤ (ps_i s 1131 22).toInt from by omega) (show (ps_i s 1131 22).toInt < 2 from by omega)
    have a8 : (((4 : Int32) * (ps_i s 1131 22)) + (ps_a s 1136 (Int32.toNatClampNeg (ps_i s 1131 22)))).toInt = ((4 : Int32) * (ps_i s 1131 22)).toInt + (ps_a s 1136 (Int32.toNatClampNeg (ps_i s 1131 22))).toInt := xIa (show -2147483648 ≤ ((4 : Int32) * (ps_i s 1131 22)).toInt + (ps_a s 1136 (Int32.toNatClampNeg (ps_i s 1131 22))).toInt from by omega) (show ((4 : Int32) * (ps_i s 1131 22)).toInt + (ps_a s 1136 (Int32.toNatClampNeg (ps_i s 1131 22))).toInt < 2147483648 from by omega)
    refine ps_nd_i (show pm_in (((4 : Int32) * (ps_i s 1131 22)) + (ps_a s 1136 (Int32.toNatClampNeg (ps_i s 1131 22)))) 8 = true from xgi (show 0 ≤ (((4 : Int32) * (ps_i s 1131 22)) + (ps_a s 1136 (Int32.toNatClampNeg (ps_i s 1131 22)))).toInt from by omega) (show (((4 : Int32) * (ps_i s 1131 22)) + (ps_a s 1136 (Int32.toNatClampNeg (ps_i s 1131 22)))).toInt < 8 from by omega)) ?_
    have J9 := mw_b (r := 1141) (i := (Int32.toNatClampNeg (((4 : Int32) * (ps_i s 1131 22)) + (ps_a s 1136 (Int32.toNatClampNeg (ps_i s 1131 22)))))) (v := l3) J
    have K10 := kpb' K (r := 1141) (i := (Int32.toNatClampNeg (((4 : Int32) * (ps_i s 1131 22)) + (ps_a s 1136 (Int32.toNatClampNeg (ps_i s 1131 22)))))) (v := l3) rfl
    refine ps_nd_i (show pm_in (ps_i s 1131 22) 2 = true from xgi (show 0 ≤ (ps_i s 1131 22).toInt from by omega) (show (ps_i s 1131 22).toInt < 2 from by omega)) ?_
    have a11 : ((ps_a s 1136 (Int32.toNatClampNeg (ps_i s 1131 22))) + 1).toInt = (ps_a s 1136 (Int32.toNatClampNeg (ps_i s 1131 22))).toInt + (1 : Int) := xIa (show -2147483648 ≤ (ps_a s 1136 (Int32.toNatClampNeg (ps_i s 1131 22))).toInt + (1 : Int) from by omega) (show (ps_a s 1136 (Int32.toNatClampNeg (ps_i s 1131 22))).toInt + (1 : Int) < 2147483648 from by omega)
    refine ps_nd_i (show pm_in (ps_i s 1131 22) 2 = true from xgi (show 0 ≤ (ps_i s 1131 22).toInt from by omega) (show (ps_i s 1131 22).toInt < 2 from by omega)) ?_
    have J12 := mwa_1136 (i := (Int32.toNatClampNeg (ps_i s 1131 22))) (v := ((ps_a s 1136 (Int32.toNatClampNeg (ps_i s 1131 22))) + 1)) J9 (show 0 ≤ ((ps_a s 1136 (Int32.toNatClampNeg (ps_i s 1131 22))) + 1).toInt from by omega) (show ((ps_a s 1136 (Int32.toNatClampNeg (ps_i s 1131 22))) + 1).toInt ≤ 4 from by omega)
    have K13 := kpa' K10 (r := 1136) (i := (Int32.toNatClampNeg (ps_i s 1131 22))) (v := ((ps_a s 1136 (Int32.toNatClampNeg (ps_i s 1131 22))) + 1)) rfl
    exact ms_204_360 (σ := σ) (c5 := c5) (c6 := c6) (c7 := c7) k   _ J12 K13 (show (ps_i s 1131 8).toInt ≤ (ps_i s 1131 4).toInt from by omega) ((by rcases hN with z | z; exact Or.inl (show 1 ≤ (ps_i s 1131 5).toInt from by omega); have z6 : (ps_a (ps_ua (ps_ub s 1141 (Int32.toNatClampNeg (((4 : Int32) * (ps_i s 1131 22)) + (ps_a s 1136 (Int32.toNatClampNeg (ps_i s 1131 22))))) l3) 1136 (Int32.toNatClampNeg (ps_i s 1131 22)) ((ps_a s 1136 (Int32.toNatClampNeg (ps_i s 1131 22))) + 1)) 1136 (Int32.toNatClampNeg (ps_i s 1131 22))).toInt = c6 + 1 := (by rw [show ps_a (ps_ua (ps_ub s 1141 (Int32.toNatClampNeg (((4 : Int32) * (ps_i s 1131 22)) + (ps_a s 1136 (Int32.toNatClampNeg (ps_i s 1131 22))))) l3) 1136 (Int32.toNatClampNeg (ps_i s 1131 22)) ((ps_a s 1136 (Int32.toNatClampNeg (ps_i s 1131 22))) + 1)) 1136 (Int32.toNatClampNeg (ps_i s 1131 22)) = (ps_a s 1136 (Int32.toNatClampNeg (ps_i s 1131 22))) + 1 from ua_eq]; omega); exact Or.inr (TH_fun (i := 4 * (ps_i s 1131 22).toInt.toNat + c6.toNat) hT hC6 (by omega) z6 (show ((4 * (ps_i s 1131 22).toInt.toNat + c6.toNat : Nat) : Int) = 4 * (ps_i s 1131 22).toInt + c6 from by omega) (z.2 (by omega)).1 (z.2 (by omega)).2))) ((KB_6 (i := (Int32.toNatClampNeg (ps_i s 1131 22))) hK (show (((Int32.toNatClampNeg (ps_i s 1131 22)) : Nat) : Int) = (ps_i s 1131 22).toInt from by rw [nx (n := (ps_i s 1131 22).toInt) rfl]; omega) (fun j hj => ua_ne hj))) ((by have z6 : (ps_a (ps_ua (ps_ub s 1141 (Int32.toNatClampNeg (((4 : Int32) * (ps_i s 1131 22)) + (ps_a s 1136 (Int32.toNatClampNeg (ps_i s 1131 22))))) l3) 1136 (Int32.toNatClampNeg (ps_i s 1131 22)) ((ps_a s 1136 (Int32.toNatClampNeg (ps_i s 1131 22))) + 1)) 1136 (Int32.toNatClampNeg (ps_i s 1131 22))).toInt = c6 + 1 := (by rw [show ps_a (ps_ua (ps_ub s 1141 (Int32.toNatClampNeg (((4 : Int32) * (ps_i s 1131 22)) + (ps_a s 1136 (Int32.toNatClampNeg (ps_i s 1131 22))))) l3) 1136 (Int32.toNatClampNeg (ps_i s 1131 22)) ((ps_a s 1136 (Int32.toNatClampNeg (ps_i s 1131 22))) + 1)) 1136 (Int32.toNatClampNeg (ps_i s 1131 22)) = (ps_a s 1136 (Int32.toNatClampNeg (ps_i s 1131 22))) + 1 from ua_eq]; omega); exact Or.inr (show (ps_a s 1135 (Int32.toNatClampNeg (ps_i s 1131 22))).toInt + (ps_a (ps_ua (ps_ub s 1141 (Int32.toNatClampNeg (((4 : Int32) * (ps_i s 1131 22)) + (ps_a s 1136 (Int32.toNatClampNeg (ps_i s 1131 22))))) l3) 1136 (Int32.toNatClampNeg (ps_i s 1131 22)) ((ps_a s 1136 (Int32.toNatClampNeg (ps_i s 1131 22))) + 1)) 1136 (Int32.toNatClampNeg (ps_i s 1131 22))).toInt + (ps_a s 1137 (Int32.toNatClampNeg (ps_i s 1131 22))).toInt = c5 + c6 + c7 + 1 from by omega))) ((by have z6 : (ps_a (ps_ua (ps_ub s 1141 (Int32.toNatClampNeg (((4 : Int32) * (ps_i s 1131 22)) + (ps_a s 1136 (Int32.toNatClampNeg (ps_i s 1131 22))))) l3) 1136 (Int32.toNatClampNeg (ps_i s 1131 22)) ((ps_a s 1136 (Int32.toNatClampNeg (ps_i s 1131 22))) + 1)) 1136 (Int32.toNatClampNeg (ps_i s 1131 22))).toInt = c6 + 1 := (by rw [show ps_a (ps_ua (ps_ub s 1141 (Int32.toNatClampNeg (((4 : Int32) * (ps_i s 1131 22)) + (ps_a s 1136 (Int32.toNatClampNeg (ps_i s 1131 22))))) l3) 1136 (Int32.toNatClampNeg (ps_i s 1131 22)) ((ps_a s 1136 (Int32.toNatClampNeg (ps_i s 1131 22))) + 1)) 1136 (Int32.toNatClampNeg (ps_i s 1131 22)) = (ps_a s 1136 (Int32.toNatClampNeg (ps_i s 1131 22))) + 1 from ua_eq]; omega); exact (show c5 + c6 + c7 ≤ (ps_a s 1135 (Int32.toNatClampNeg (ps_i s 1131 22))).toInt + (ps_a (ps_ua (ps_ub s 1141 (Int32.toNatClampNeg (((4 : Int32) * (ps_i s 1131 22)) + (ps_a s 1136 (Int32.toNatClampNeg (ps_i s 1131 22))))) l3) 1136 (Int32.toNatClampNeg (ps_i s 1131 22)) ((ps_a s 1136 (Int32.toNatClampNeg (ps_i s 1131 22))) + 1)) 1136 (Int32.toNatClampNeg (ps_i s 1131 22))).toInt + (ps_a s 1137 (Int32.toNatClampNeg (ps_i s 1131 22))).toInt from by omega))) (show (ps_i s 1131 22).toInt = (ps_i s0 1131 22).toInt from by omega)
  · have f14 : x1.toInt ≠ (0 : Int) := xne h4
    have a15 : ((6 : Int32) * (ps_i s 1131 22)).toInt = (6 : Int) * (ps_i s 1131 22).toInt := xIm (show -2147483648 ≤ (6 : Int) * (ps_i s 1131 22).toInt from by omega) (show (6 : Int) * (ps_i s 1131 22).toInt < 2147483648 from by omega)
    refine ps_nd_i (show pm_in (ps_i s 1131 22) 2 = true from xgi (show 0 ≤ (ps_i s 1131 22).toInt from by omega) (show (ps_i s 1131 22).toInt < 2 from by omega)) ?_
    have r16 : 0 ≤ (ps_a s 1135 (Int32.toNatClampNeg (ps_i s 1131 22))).toInt ∧ (ps_a s 1135 (Int32.toNatClampNeg (ps_i s 1131 22))).toInt ≤ 6 := ma_1135 (i := (ps_i s 1131 22)) J (show 0 ≤ (ps_i s 1131 22).toInt from by omega) (show (ps_i s 1131 22).toInt < 2 from by omega)
    have a17 : (((6 : Int32) * (ps_i s 1131 22)) + (ps_a s 1135 (Int32.toNatClampNeg (ps_i s 1131 22)))).toInt = ((6 : Int32) * (ps_i s 1131 22)).toInt + (ps_a s 1135 (Int32.toNatClampNeg (ps_i s 1131 22))).toInt := xIa (show -2147483648 ≤ ((6 : Int32) * (ps_i s 1131 22)).toInt + (ps_a s 1135 (Int32.toNatClampNeg (ps_i s 1131 22))).toInt from by omega) (show ((6 : Int32) * (ps_i s 1131 22)).toInt + (ps_a s 1135 (Int32.toNatClampNeg (ps_i s 1131 22))).toInt < 2147483648 from by omega)
    refine ps_nd_i (show pm_in (((6 : Int32) * (ps_i s 1131 22)) + (ps_a s 1135 (Int32.toNatClampNeg (ps_i s 1131 22)))) 12 = true from xgi (show 0 ≤ (((6 : Int32) * (ps_i s 1131 22)) + (ps_a s 1135 (Int32.toNatClampNeg (ps_i s 1131 22)))).toInt from by omega) (show (((6 : Int32) * (ps_i s 1131 22)) + (ps_a s 1135 (Int32.toNatClampNeg (ps_i s 1131 22)))).toInt < 12 from by omega)) ?_
    have J18 := mw_b (r := 1140) (i := (Int32.toNatClampNeg (((6 : Int32) * (ps_i s 1131 22)) + (ps_a s 1135 (Int32.toNatClampNeg (ps_i s 1131 22)))))) (v := l3) J
    have K19 := kpb' K (r := 1140) (i := (Int32.toNatClampNeg (((6 : Int32) * (ps_i s 1131 22)) + (ps_a s 1135 (Int32.toNatClampNeg (ps_i s 1131 22)))))) (v := l3) rfl
    refine ps_nd_i (show pm_in (ps_i s 1131 22) 2 = true from xgi (show 0 ≤ (ps_i s 1131 22).toInt from by omega) (show (ps_i s 1131 22).toInt < 2 from by omega)) ?_
    have a20 : ((ps_a s 1135 (Int32.toNatClampNeg (ps_i s 1131 22))) + 1).toInt = (ps_a s 1135 (Int32.toNatClampNeg (ps_i s 1131 22))).toInt + (1 : Int) := xIa (show -2147483648 ≤ (ps_a s 1135 (Int32.toNatClampNeg (ps_i s 1131 22))).toInt + (1 : Int) from by omega) (show (ps_a s 1135 (Int32.toNatClampNeg (ps_i s 1131 22))).toInt + (1 : Int) < 2147483648 from by omega)
    refine ps_nd_i (show pm_in (ps_i s 1131 22) 2 = true from xgi (show 0 ≤ (ps_i s 1131 22).toInt from by omega) (show (ps_i s 1131 22).toInt < 2 from by omega)) ?_
    have J21 := mwa_1135 (i := (Int32.toNatClampNeg (ps_i s 1131 22))) (v := ((ps_a s 1135 (Int32.toNatClampNeg (ps_i s 1131 22))) + 1)) J18 (show 0 ≤ ((ps_a s 1135 (Int32.toNatClampNeg (ps_i s 1131 22))) + 1).toInt from by omega) (show ((ps_a s 1135 (Int32.toNatClampNeg (ps_i s 1131 22))) + 1).toInt ≤ 6 from by omega)
    have K22 := kpa' K19 (r := 1135) (i := (Int32.toNatClampNeg (ps_i s 1131 22))) (v := ((ps_a s 1135 (Int32.toNatClampNeg (ps_i s 1131 22))) + 1)) rfl
    exact ms_204_360 (σ := σ) (c5 := c5) (c6 := c6) (c7 := c7) k   _ J21 K22 (show (ps_i s 1131 8).toInt ≤ (ps_i s 1131 4).toInt from by omega) ((by rcases hN with z | z; exact Or.inl (show 1 ≤ (ps_i s 1131 5).toInt from by omega); have z5 : (ps_a (ps_ua (ps_ub s 1140 (Int32.toNatClampNeg (((6 : Int32) * (ps_i s 1131 22)) + (ps_a s 1135 (Int32.toNatClampNeg (ps_i s 1131 22))))) l3) 1135 (Int32.toNatClampNeg (ps_i s 1131 22)) ((ps_a s 1135 (Int32.toNatClampNeg (ps_i s 1131 22))) + 1)) 1135 (Int32.toNatClampNeg (ps_i s 1131 22))).toInt = c5 + 1 := (by rw [show ps_a (ps_ua (ps_ub s 1140 (Int32.toNatClampNeg (((6 : Int32) * (ps_i s 1131 22)) + (ps_a s 1135 (Int32.toNatClampNeg (ps_i s 1131 22))))) l3) 1135 (Int32.toNatClampNeg (ps_i s 1131 22)) ((ps_a s 1135 (Int32.toNatClampNeg (ps_i s 1131 22))) + 1)) 1135 (Int32.toNatClampNeg (ps_i s 1131 22)) = (ps_a s 1135 (Int32.toNatClampNeg (ps_i s 1131 22))) + 1 from ua_eq]; omega); exact Or.inr (TH_rel (i := 6 * (ps_i s 1131 22).toInt.toNat + c5.toNat) hT hC5 (by omega) z5 (show ((6 * (ps_i s 1131 22).toInt.toNat + c5.toNat : Nat) : Int) = 6 * (ps_i s 1131 22).toInt + c5 from by omega) (z.1 (by omega)).1 (z.1 (by omega)).2))) ((KB_5 (i := (Int32.toNatClampNeg (ps_i s 1131 22))) hK (show (((Int32.toNatClampNeg (ps_i s 1131 22)) : Nat) : Int) = (ps_i s 1131 22).toInt from by rw [nx (n := (ps_i s 1131 22).toInt) rfl]; omega) (fun j hj => ua_ne hj))) ((by have z5 : (ps_a (ps_ua (ps_ub s 1140 (Int32.toNatClampNeg (((6 : Int32) * (ps_i s 1131 22)) + (ps_a s 1135 (Int32.toNatClampNeg (ps_i s 1131 22))))) l3) 1135 (Int32.toNatClampNeg (ps_i s 1131 22)) ((ps_a s 1135 (Int32.toNatClampNeg (ps_i s 1131 22))) + 1)) 1135 (Int32.toNatClampNeg (ps_i s 1131 22))).toInt = c5 + 1 := (by rw [show ps_a (ps_ua (ps_ub s 1140 (Int32.toNatClampNeg (((6 : Int32) * (ps_i s 1131 22)) + (ps_a s 1135 (Int32.toNatClampNeg (ps_i s 1131 22))))) l3) 1135 (Int32.toNatClampNeg (ps_i s 1131 22)) ((ps_a s 1135 (Int32.toNatClampNeg (ps_i s 1131 22))) + 1)) 1135 (Int32.toNatClampNeg (ps_i s 1131 22)) = (ps_a s 1135 (Int32.toNatClampNeg (ps_i s 1131 22))) + 1 from ua_eq]; omega); exact Or.inr (show (ps_a (ps_ua (ps_ub s 1140 (Int32.toNatClampNeg (((6 : Int32) * (ps_i s 1131 22)) + (ps_a s 1135 (Int32.toNatClampNeg (ps_i s 1131 22))))) l3) 1135 (Int32.toNatClampNeg (ps_i s 1131 22)) ((ps_a s 1135 (Int32.toNatClampNeg (ps_i s 1131 22))) + 1)) 1135 (Int32.toNatClampNeg (ps_i s 1131 22))).toInt + (ps_a s 1136 (Int32.toNatClampNeg (ps_i s 1131 22))).toInt + (ps_a s 1137 (Int32.toNatClampNeg (ps_i s 1131 22))).toInt = c5 + c6 + c7 + 1 from by omega))) ((by have z5 : (ps_a (ps_ua (ps_ub s 1140 (Int32.toNatClampNeg (((6 : Int32) * (ps_i s 1131 22)) + (ps_a s 1135 (Int32.toNatClampNeg (ps_i s 1131 22))))) l3) 1135 (Int32.toNatClampNeg (ps_i s 1131 22)) ((ps_a s 1135 (Int32.toNatClampNeg (ps_i s 1131 22))) + 1)) 1135 (Int32.toNatClampNeg (ps_i s 1131 22))).toInt = c5 + 1 := (by rw [show ps_a (ps_ua (ps_ub s 1140 (Int32.toNatClampNeg (((6 : Int32) * (ps_i s 1131 22)) + (ps_a s 1135 (Int32.toNatClampNeg (ps_i s 1131 22))))) l3) 1135 (Int32.toNatClampNeg (ps_i s 1131 22)) ((ps_a s 1135 (Int32.toNatClampNeg (ps_i s 1131 22))) + 1)) 1135 (Int32.toNatClampNeg (ps_i s 1131 22)) = (ps_a s 1135 (Int32.toNatClampNeg (ps_i s 1131 22))) + 1 from ua_eq]; omega); exact (show c5 + c6 + c7 ≤ (ps_a (ps_ua (ps_ub s 1140 (Int32.toNatClampNeg (((6 : Int32) * (ps_i s 1131 22)) + (ps_a s 1135 (Int32.toNatClampNeg (ps_i s 1131 22))))) l3) 1135 (Int32.toNatClampNeg (ps_i s 1131 22)) ((ps_a s 1135 (Int32.toNatClampNeg (ps_i s 1131 22))) + 1)) 1135 (Int32.toNatClampNeg (ps_i s 1131 22))).toInt + (ps_a s 1136 (Int32.toNatClampNeg (ps_i s 1131 22))).toInt + (ps_a s 1137 (Int32.toNatClampNeg (ps_i s 1131 22))).toInt from by omega))) (show (ps_i s 1131 22).toInt = (ps_i s0 1131 22).toInt from by omega)

theorem ms_204_271 {x : Nat → Nat → Nat} {t : Int32} {d : Nat} {s0 : ps_S} {σ : mSig} {c5 c6 c7 : Int} {Q : Option Value → ps_S → Prop} (k : ∀ (s' : ps_S), mJ x t s' → kp [1134, 1135, 1136, 1137, 1138, 1139, 1140, 1141, 1142, 1143, 1144, 1145, 1146, 1147, 1148] [5, 6, 7, 8, 9, 10, 11, 23, 29, 30, 31, 32] s0 s' → ((ps_i s' 1131 8).toInt ≤ (ps_i s' 1131 4).toInt) → (1 ≤ (ps_i s' 1131 5).toInt ∨ ∃ τ, TH τ (ps_a s' 1134) (ps_a s' 1135) (ps_a s' 1136) (ps_a s' 1137) (ps_a s' 1138) (ps_a s' 1139) (ps_i s' 1131 22).toInt) → (KB (ps_i s' 1131 22).toInt (ps_a s0 1134) (ps_a s0 1135) (ps_a s0 1136) (ps_a s0 1137) (ps_a s0 1138) (ps_a s0 1139) (ps_a s' 1134) (ps_a s' 1135) (ps_a s' 1136) (ps_a s' 1137) (ps_a s' 1138) (ps_a s' 1139)) → (1 ≤ (ps_i s' 1131 5).toInt ∨ (ps_a s' 1135 (Int32.toNatClampNeg (ps_i s' 1131 22))).toInt + (ps_a s' 1136 (Int32.toNatClampNeg (ps_i s' 1131 22))).toInt + (ps_a s' 1137 (Int32.toNatClampNeg (ps_i s' 1131 22))).toInt = c5 + c6 + c7 + 1) → (c5 + c6 + c7 ≤ (ps_a s' 1135 (Int32.toNatClampNeg (ps_i s' 1131 22))).toInt + (ps_a s' 1136 (Int32.toNatClampNeg (ps_i s' 1131 22))).toInt + (ps_a s' 1137 (Int32.toNatClampNeg (ps_i s' 1131 22))).toInt) → Q none s') (x1 : Int32) (l3 : Int64) (s : ps_S) (J : mJ x t s) (K : kp [1134, 1135, 1136, 1137, 1138, 1139, 1140, 1141, 1142, 1143, 1144, 1145, 1146, 1147, 1148] [5, 6, 7, 8, 9, 10, 11, 23, 29, 30, 31, 32] s0 s) (hT : TH σ (ps_a s 1134) (ps_a s 1135) (ps_a s 1136) (ps_a s 1137) (ps_a s 1138) (ps_a s 1139) (ps_i s 1131 22).toInt) (hK : KB (ps_i s 1131 22).toInt (ps_a s0 1134) (ps_a s0 1135) (ps_a s0 1136) (ps_a s0 1137) (ps_a s0 1138) (ps_a s0 1139) (ps_a s 1134) (ps_a s 1135) (ps_a s 1136) (ps_a s 1137) (ps_a s 1138) (ps_a s 1139)) (hC5 : (ps_a s 1135 (Int32.toNatClampNeg (ps_i s 1131 22))).toInt = c5) (hC6 : (ps_a s 1136 (Int32.toNatClampNeg (ps_i s 1131 22))).toInt = c6) (hC7 : (ps_a s 1137 (Int32.toNatClampNeg (ps_i s 1131 22))).toInt = c7) (i5 : (ps_i s 1131 8).toInt ≤ (ps_i s 1131 4).toInt) (i6 : (ps_i s 1131 22).toInt = (ps_i s0 1131 22).toInt) (i7 : (x1.toInt ≠ 0 ∧ c5 < 6) ∨ (x1.toInt = 0 ∧ c6 < 4)) (hN : 1 ≤ (ps_i s 1131 5).toInt ∨ ((x1.toInt ≠ 0 → 0 ≤ (ps_a s 1138 (6 * (ps_i s 1131 22).toInt.toNat + c5.toNat)).toInt ∧ (ps_a s 1138 (6 * (ps_i s 1131 22).toInt.toNat + c5.toNat)).toInt ≤ 2) ∧ (x1.toInt = 0 → 0 ≤ (ps_a s 1139 (4 * (ps_i s 1131 22).toInt.toNat + c6.toNat)).toInt ∧ (ps_a s 1139 (4 * (ps_i s 1131 22).toInt.toNat + c6.toNat)).toInt ≤ 2))) : ps_At (d + 6) 204 271 [(0, .ref 1131), (1, .int x1), (3, .long l3)] [] s Q := by
  have r1 := mf_8 J
  have r2 := mf_4 J
  have r3 := mf_22 J
  refine pg_204_271 (d := d + 5) ?_
  refine ms_192 J  (fun v4 p4_0 b4 => ?_)
  have p4_0' : (v4.toInt = 0 ∧ 1 ≤ (ps_i s 1131 5).toInt) ∨ (v4.toInt = 1 ∧ (ps_i s 1131 5).toInt = 0) := p4_0
  have r5 := mf_5 J
  refine And.intro (fun h6 => ?_) (fun h6 => ?_)
  · have f7 : v4.toInt = (0 : Int) := xeq h6
    have qz7 : 1 ≤ (ps_i s 1131 5).toInt := by omega
    clear p4_0' p4_0
    exact ms_204_282 (σ := σ) (c5 := c5) (c6 := c6) (c7 := c7) k  x1 l3 _ J K hT hK hC5 hC6 hC7 (show (ps_i s 1131 8).toInt ≤ (ps_i s 1131 4).toInt from by omega) (show (ps_i s 1131 22).toInt = (ps_i s0 1131 22).toInt from by omega) (show (x1.toInt ≠ 0 ∧ c5 < 6) ∨ (x1.toInt = 0 ∧ c6 < 4) from by omega) hN
  · have f8 : v4.toInt ≠ (0 : Int) := xne h6
    have qz8 : (ps_i s 1131 5).toInt = 0 := by omega
    clear p4_0' p4_0
    refine ms_194 J (show (ps_i s 1131 8).toInt ≤ (ps_i s 1131 4).toInt from by omega) (fun s9 J9 K9 p9_0 => ?_)
    have K10 := kpt K K9 rfl rfl
    have KC := K9
    have hT : TH σ (ps_a s9 1134) (ps_a s9 1135) (ps_a s9 1136) (ps_a s9 1137) (ps_a s9 1138) (ps_a s9 1139) (ps_i s9 1131 22).toInt := by rw [show ps_a s9 1134 = ps_a s 1134 from (K9.2 1134 rfl).1, show ps_a s9 1135 = ps_a s 1135 from (K9.2 1135 rfl).1, show ps_a s9 1136 = ps_a s 1136 from (K9.2 1136 rfl).1, show ps_a s9 1137 = ps_a s 1137 from (K9.2 1137 rfl).1, show ps_a s9 1138 = ps_a s 1138 from (K9.2 1138 rfl).1, show ps_a s9 1139 = ps_a s 1139 from (K9.2 1139 rfl).1, show ps_i s9 1131 22 = ps_i s 1131 22 from kp_i K9 22 rfl]; exact hT
    have hK : KB (ps_i s9 1131 22).toInt (ps_a s0 1134) (ps_a s0 1135) (ps_a s0 1136) (ps_a s0 1137) (ps_a s0 1138) (ps_a s0 1139) (ps_a s9 1134) (ps_a s9 1135) (ps_a s9 1136) (ps_a s9 1137) (ps_a s9 1138) (ps_a s9 1139) := by rw [show ps_a s9 1134 = ps_a s 1134 from (K9.2 1134 rfl).1, show ps_a s9 1135 = ps_a s 1135 from (K9.2 1135 rfl).1, show ps_a s9 1136 = ps_a s 1136 from (K9.2 1136 rfl).1, show ps_a s9 1137 = ps_a s 1137 from (K9.2 1137 rfl).1, show ps_a s9 1138 = ps_a s 1138 from (K9.2 1138 rfl).1, show ps_a s9 1139 = ps_a s 1139 from (K9.2 1139 rfl).1, show ps_i s9 1131 22 = ps_i s 1131 22 from kp_i K9 22 rfl]; exact hK
    have hC5 : (ps_a s9 1135 (Int32.toNatClampNeg (ps_i s9 1131 22))).toInt = c5 := by rw [show ps_a s9 1135 = ps_a s 1135 from (K9.2 1135 rfl).1, show ps_i s9 1131 22 = ps_i s 1131 22 from kp_i K9 22 rfl]; exact hC5
    have hC6 : (ps_a s9 1136 (Int32.toNatClampNeg (ps_i s9 1131 22))).toInt = c6 := by rw [show ps_a s9 1136 = ps_a s 1136 from (K9.2 1136 rfl).1, show ps_i s9 1131 22 = ps_i s 1131 22 from kp_i K9 22 rfl]; exact hC6
    have hC7 : (ps_a s9 1137 (Int32.toNatClampNeg (ps_i s9 1131 22))).toInt = c7 := by rw [show ps_a s9 1137 = ps_a s 1137 from (K9.2 1137 rfl).1, show ps_i s9 1131 22 = ps_i s 1131 22 from kp_i K9 22 rfl]; exact hC7
    have hN : 1 ≤ (ps_i s9 1131 5).toInt ∨ ((x1.toInt ≠ 0 → 0 ≤ (ps_a s9 1138 (6 * (ps_i s9 1131 22).toInt.toNat + c5.toNat)).toInt ∧ (ps_a s9 1138 (6 * (ps_i s9 1131 22).toInt.toNat + c5.toNat)).toInt ≤ 2) ∧ (x1.toInt = 0 → 0 ≤ (ps_a s9 1139 (4 * (ps_i s9 1131 22).toInt.toNat + c6.toNat)).toInt ∧ (ps_a s9 1139 (4 * (ps_i s9 1131 22).toInt.toNat + c6.toNat)).toInt ≤ 2)) := by rw [show ps_a s9 1138 = ps_a s 1138 from (K9.2 1138 rfl).1, show ps_a s9 1139 = ps_a s 1139 from (K9.2 1139 rfl).1, show ps_i s9 1131 5 = ps_i s 1131 5 from kp_i K9 5 rfl, show ps_i s9 1131 22 = ps_i s 1131 22 from kp_i K9 22 rfl]; exact hN
    have p9_0' : (ps_i s9 1131 8).toInt ≤ (ps_i s9 1131 4).toInt := p9_0
    have r11 := mf_8 J9
    have r12 := mf_4 J9
    have u13 : (ps_i s9 1131 4).toInt = (ps_i s 1131 4).toInt := xeq (kp_i K9 4 rfl)
    have r14 := mf_22 J9
    have u15 : (ps_i s9 1131 22).toInt = (ps_i s 1131 22).toInt := xeq (kp_i K9 22 rfl)
    exact ms_204_282 (σ := σ) (c5 := c5) (c6 := c6) (c7 := c7) k  x1 l3 _ J9 K10 hT hK hC5 hC6 hC7 (show (ps_i s9 1131 8).toInt ≤ (ps_i s9 1131 4).toInt from by omega) (show (ps_i s9 1131 22).toInt = (ps_i s0 1131 22).toInt from by omega) (show (x1.toInt ≠ 0 ∧ c5 < 6) ∨ (x1.toInt = 0 ∧ c6 < 4) from by omega) hN

theorem ms_204_213 {x : Nat → Nat → Nat} {t : Int32} {d : Nat} {s0 : ps_S} {σ : mSig} {c5 c6 c7 : Int} {Q : Option Value → ps_S → Prop} (k : ∀ (s' : ps_S), mJ x t s' → kp [1134, 1135, 1136, 1137, 1138, 1139, 1140, 1141, 1142, 1143, 1144, 1145, 1146, 1147, 1148] [5, 6, 7, 8, 9, 10, 11, 23, 29, 30, 31, 32] s0 s' → ((ps_i s' 1131 8).toInt ≤ (ps_i s' 1131 4).toInt) → (1 ≤ (ps_i s' 1131 5).toInt ∨ ∃ τ, TH τ (ps_a s' 1134) (ps_a s' 1135) (ps_a s' 1136) (ps_a s' 1137) (ps_a s' 1138) (ps_a s' 1139) (ps_i s' 1131 22).toInt) → (KB (ps_i s' 1131 22).toInt (ps_a s0 1134) (ps_a s0 1135) (ps_a s0 1136) (ps_a s0 1137) (ps_a s0 1138) (ps_a s0 1139) (ps_a s' 1134) (ps_a s' 1135) (ps_a s' 1136) (ps_a s' 1137) (ps_a s' 1138) (ps_a s' 1139)) → (1 ≤ (ps_i s' 1131 5).toInt ∨ (ps_a s' 1135 (Int32.toNatClampNeg (ps_i s' 1131 22))).toInt + (ps_a s' 1136 (Int32.toNatClampNeg (ps_i s' 1131 22))).toInt + (ps_a s' 1137 (Int32.toNatClampNeg (ps_i s' 1131 22))).toInt = c5 + c6 + c7 + 1) → (c5 + c6 + c7 ≤ (ps_a s' 1135 (Int32.toNatClampNeg (ps_i s' 1131 22))).toInt + (ps_a s' 1136 (Int32.toNatClampNeg (ps_i s' 1131 22))).toInt + (ps_a s' 1137 (Int32.toNatClampNeg (ps_i s' 1131 22))).toInt) → Q none s') (x1 : Int32) (l3 : Int64) (s : ps_S) (J : mJ x t s) (K : kp [1134, 1135, 1136, 1137, 1138, 1139, 1140, 1141, 1142, 1143, 1144, 1145, 1146, 1147, 1148] [5, 6, 7, 8, 9, 10, 11, 23, 29, 30, 31, 32] s0 s) (hT : TH σ (ps_a s 1134) (ps_a s 1135) (ps_a s 1136) (ps_a s 1137) (ps_a s 1138) (ps_a s 1139) (ps_i s 1131 22).toInt) (hK : KB (ps_i s 1131 22).toInt (ps_a s0 1134) (ps_a s0 1135) (ps_a s0 1136) (ps_a s0 1137) (ps_a s0 1138) (ps_a s0 1139) (ps_a s 1134) (ps_a s 1135) (ps_a s 1136) (ps_a s 1137) (ps_a s 1138) (ps_a s 1139)) (hC5 : (ps_a s 1135 (Int32.toNatClampNeg (ps_i s 1131 22))).toInt = c5) (hC6 : (ps_a s 1136 (Int32.toNatClampNeg (ps_i s 1131 22))).toInt = c6) (hC7 : (ps_a s 1137 (Int32.toNatClampNeg (ps_i s 1131 22))).toInt = c7) (i5 : (ps_i s 1131 8).toInt ≤ (ps_i s 1131 4).toInt) (i6 : (ps_i s 1131 22).toInt = (ps_i s0 1131 22).toInt) (i7 : (x1.toInt ≠ 0 ∧ c5 < 6) ∨ (x1.toInt = 0 ∧ c6 < 4)) (i8 : 1 ≤ (ps_i s 1131 5).toInt ∨ (ps_i s 1131 10).toInt ≤ 2) : ps_At (d + 6) 204 213 [(0, .ref 1131), (1, .int x1), (3, .long l3)] [] s Q := by
  have r1 := mf_8 J
  have r2 := mf_4 J
  have r3 := mf_22 J
  have r4 := mf_5 J
  have r5 := mf_10 J
  refine pg_204_213 (d := d + 5) ?_
  refine And.intro (fun h6 => ?_) (fun h6 => ?_)
  · have f7 : x1.toInt = (0 : Int) := xeq h6
    have a8 : ((4 : Int32) * (ps_i s 1131 22)).toInt = (4 : Int) * (ps_i s 1131 22).toInt := xIm (show -2147483648 ≤ (4 : Int) * (ps_i s 1131 22).toInt from by omega) (show (4 : Int) * (ps_i s 1131 22).toInt < 2147483648 from by omega)
    refine ps_nd_i (show pm_in (ps_i s 1131 22) 2 = true from xgi (show 0 ≤ (ps_i s 1131 22).toInt from by omega) (show (ps_i s 1131 22).toInt < 2 from by omega)) ?_
    have r9 : 0 ≤ (ps_a s 1136 (Int32.toNatClampNeg (ps_i s 1131 22))).toInt ∧ (ps_a s 1136 (Int32.toNatClampNeg (ps_i s 1131 22))).toInt ≤ 4 := ma_1136 (i := (ps_i s 1131 22)) J (show 0 ≤ (ps_i s 1131 22).toInt from by omega) (show (ps_i s 1131 22).toInt < 2 from by omega)
    have a10 : (((4 : Int32) * (ps_i s 1131 22)) + (ps_a s 1136 (Int32.toNatClampNeg (ps_i s 1131 22)))).toInt = ((4 : Int32) * (ps_i s 1131 22)).toInt + (ps_a s 1136 (Int32.toNatClampNeg (ps_i s 1131 22))).toInt := xIa (show -2147483648 ≤ ((4 : Int32) * (ps_i s 1131 22)).toInt + (ps_a s 1136 (Int32.toNatClampNeg (ps_i s 1131 22))).toInt from by omega) (show ((4 : Int32) * (ps_i s 1131 22)).toInt + (ps_a s 1136 (Int32.toNatClampNeg (ps_i s 1131 22))).toInt < 2147483648 from by omega)
    have eI : Int32.toNatClampNeg (((4 : Int32) * (ps_i s 1131 22)) + (ps_a s 1136 (Int32.toNatClampNeg (ps_i s 1131 22)))) = 4 * (ps_i s 1131 22).toInt.toNat + c6.toNat := (nx (n := 4 * (ps_i s 1131 22).toInt + c6) (by omega)).trans (by omega)
    refine ps_nd_i (show pm_in (((4 : Int32) * (ps_i s 1131 22)) + (ps_a s 1136 (Int32.toNatClampNeg (ps_i s 1131 22)))) 8 = true from xgi (show 0 ≤ (((4 : Int32) * (ps_i s 1131 22)) + (ps_a s 1136 (Int32.toNatClampNeg (ps_i s 1131 22)))).toInt from by omega) (show (((4 : Int32) * (ps_i s 1131 22)) + (ps_a s 1136 (Int32.toNatClampNeg (ps_i s 1131 22)))).toInt < 8 from by omega)) ?_
    have J11 := mwa_1139 (i := (Int32.toNatClampNeg (((4 : Int32) * (ps_i s 1131 22)) + (ps_a s 1136 (Int32.toNatClampNeg (ps_i s 1131 22)))))) (v := (ps_i s 1131 10)) J (show 0 ≤ (ps_i s 1131 10).toInt from by omega) (show (ps_i s 1131 10).toInt ≤ 9999 from by omega)
    have K12 := kpa' K (r := 1139) (i := (Int32.toNatClampNeg (((4 : Int32) * (ps_i s 1131 22)) + (ps_a s 1136 (Int32.toNatClampNeg (ps_i s 1131 22)))))) (v := (ps_i s 1131 10)) rfl
    exact ms_204_271 (σ := σ) (c5 := c5) (c6 := c6) (c7 := c7) k  x1 l3 _ J11 K12 ((TH_9 (i := Int32.toNatClampNeg (((4 : Int32) * (ps_i s 1131 22)) + (ps_a s 1136 (Int32.toNatClampNeg (ps_i s 1131 22))))) hT (show ((Int32.toNatClampNeg (((4 : Int32) * (ps_i s 1131 22)) + (ps_a s 1136 (Int32.toNatClampNeg (ps_i s 1131 22)))) : Nat) : Int) = 4 * (ps_i s 1131 22).toInt + (ps_a s 1136 ((ps_i s 1131 22).toInt).toNat).toInt from by have z : (ps_a s 1136 ((ps_i s 1131 22).toInt).toNat).toInt = c6 := hC6; omega) (fun j hj => ua_ne hj))) ((KB_9 (i := Int32.toNatClampNeg (((4 : Int32) * (ps_i s 1131 22)) + (ps_a s 1136 (Int32.toNatClampNeg (ps_i s 1131 22))))) hK (show 4 * (ps_i s 1131 22).toInt ≤ ((Int32.toNatClampNeg (((4 : Int32) * (ps_i s 1131 22)) + (ps_a s 1136 (Int32.toNatClampNeg (ps_i s 1131 22)))) : Nat) : Int) ∧ ((Int32.toNatClampNeg (((4 : Int32) * (ps_i s 1131 22)) + (ps_a s 1136 (Int32.toNatClampNeg (ps_i s 1131 22)))) : Nat) : Int) < 4 * (ps_i s 1131 22).toInt + 4 from by omega) (fun j hj => ua_ne hj))) hC5 hC6 hC7 (show (ps_i s 1131 8).toInt ≤ (ps_i s 1131 4).toInt from by omega) (show (ps_i s 1131 22).toInt = (ps_i s0 1131 22).toInt from by omega) (show (x1.toInt ≠ 0 ∧ c5 < 6) ∨ (x1.toInt = 0 ∧ c6 < 4) from by omega) ((by rcases i8 with z | z; exact Or.inl z; exact Or.inr ⟨fun q => absurd (show x1.toInt = 0 from by omega) q, fun _ => (show 0 ≤ (ps_a (ps_ua s 1139 (Int32.toNatClampNeg (((4 : Int32) * (ps_i s 1131 22)) + (ps_a s 1136 (Int32.toNatClampNeg (ps_i s 1131 22))))) (ps_i s 1131 10)) 1139 (4 * (ps_i s 1131 22).toInt.toNat + c6.toNat)).toInt ∧ (ps_a (ps_ua s 1139 (Int32.toNatClampNeg (((4 : Int32) * (ps_i s 1131 22)) + (ps_a s 1136 (Int32.toNatClampNeg (ps_i s 1131 22))))) (ps_i s 1131 10)) 1139 (4 * (ps_i s 1131 22).toInt.toNat + c6.toNat)).toInt ≤ 2 from by rw [show (ps_a (ps_ua s 1139 (Int32.toNatClampNeg (((4 : Int32) * (ps_i s 1131 22)) + (ps_a s 1136 (Int32.toNatClampNeg (ps_i s 1131 22))))) (ps_i s 1131 10)) 1139 (4 * (ps_i s 1131 22).toInt.toNat + c6.toNat)) = ps_i s 1131 10 from (by rw [← eI]; exact ua_eq)]; omega)⟩))
  · have f13 : x1.toInt ≠ (0 : Int) := xne h6
    have a14 : ((6 : Int32) * (ps_i s 1131 22)).toInt = (6 : Int) * (ps_i s 1131 22).toInt := xIm (show -2147483648 ≤ (6 : Int) * (ps_i s 1131 22).toInt from by omega) (show (6 : Int) * (ps_i s 1131 22).toInt < 2147483648 from by omega)
    refine ps_nd_i (show pm_in (ps_i s 1131 22) 2 = true from xgi (show 0 ≤ (ps_i s 1131 22).toInt from by omega) (show (ps_i s 1131 22).toInt < 2 from by omega)) ?_
    have r15 : 0 ≤ (ps_a s 1135 (Int32.toNatClampNeg (ps_i s 1131 22))).toInt ∧ (ps_a s 1135 (Int32.toNatClampNeg (ps_i s 1131 22))).toInt ≤ 6 := ma_1135 (i := (ps_i s 1131 22)) J (show 0 ≤ (ps_i s 1131 22).toInt from by omega) (show (ps_i s 1131 22).toInt < 2 from by omega)
    have a16 : (((6 : Int32) * (ps_i s 1131 22)) + (ps_a s 1135 (Int32.toNatClampNeg (ps_i s 1131 22)))).toInt = ((6 : Int32) * (ps_i s 1131 22)).toInt + (ps_a s 1135 (Int32.toNatClampNeg (ps_i s 1131 22))).toInt := xIa (show -2147483648 ≤ ((6 : Int32) * (ps_i s 1131 22)).toInt + (ps_a s 1135 (Int32.toNatClampNeg (ps_i s 1131 22))).toInt from by omega) (show ((6 : Int32) * (ps_i s 1131 22)).toInt + (ps_a s 1135 (Int32.toNatClampNeg (ps_i s 1131 22))).toInt < 2147483648 from by omega)
    have eI : Int32.toNatClampNeg (((6 : Int32) * (ps_i s 1131 22)) + (ps_a s 1135 (Int32.toNatClampNeg (ps_i s 1131 22)))) = 6 * (ps_i s 1131 22).toInt.toNat + c5.toNat := (nx (n := 6 * (ps_i s 1131 22).toInt + c5) (by omega)).trans (by omega)
    refine ps_nd_i (show pm_in (((6 : Int32) * (ps_i s 1131 22)) + (ps_a s 1135 (Int32.toNatClampNeg (ps_i s 1131 22)))) 12 = true from xgi (show 0 ≤ (((6 : Int32) * (ps_i s 1131 22)) + (ps_a s 1135 (Int32.toNatClampNeg (ps_i s 1131 22)))).toInt from by omega) (show (((6 : Int32) * (ps_i s 1131 22)) + (ps_a s 1135 (Int32.toNatClampNeg (ps_i s 1131 22)))).toInt < 12 from by omega)) ?_
    have J17 := mwa_1138 (i := (Int32.toNatClampNeg (((6 : Int32) * (ps_i s 1131 22)) + (ps_a s 1135 (Int32.toNatClampNeg (ps_i s 1131 22)))))) (v := (ps_i s 1131 10)) J (show 0 ≤ (ps_i s 1131 10).toInt from by omega) (show (ps_i s 1131 10).toInt ≤ 9999 from by omega)
    have K18 := kpa' K (r := 1138) (i := (Int32.toNatClampNeg (((6 : Int32) * (ps_i s 1131 22)) + (ps_a s 1135 (Int32.toNatClampNeg (ps_i s 1131 22)))))) (v := (ps_i s 1131 10)) rfl
    exact ms_204_271 (σ := σ) (c5 := c5) (c6 := c6) (c7 := c7) k  x1 l3 _ J17 K18 ((TH_8 (i := Int32.toNatClampNeg (((6 : Int32) * (ps_i s 1131 22)) + (ps_a s 1135 (Int32.toNatClampNeg (ps_i s 1131 22))))) hT (show ((Int32.toNatClampNeg (((6 : Int32) * (ps_i s 1131 22)) + (ps_a s 1135 (Int32.toNatClampNeg (ps_i s 1131 22)))) : Nat) : Int) = 6 * (ps_i s 1131 22).toInt + (ps_a s 1135 ((ps_i s 1131 22).toInt).toNat).toInt from by have z : (ps_a s 1135 ((ps_i s 1131 22).toInt).toNat).toInt = c5 := hC5; omega) (fun j hj => ua_ne hj))) ((KB_8 (i := Int32.toNatClampNeg (((6 : Int32) * (ps_i s 1131 22)) + (ps_a s 1135 (Int32.toNatClampNeg (ps_i s 1131 22))))) hK (show 6 * (ps_i s 1131 22).toInt ≤ ((Int32.toNatClampNeg (((6 : Int32) * (ps_i s 1131 22)) + (ps_a s 1135 (Int32.toNatClampNeg (ps_i s 1131 22)))) : Nat) : Int) ∧ ((Int32.toNatClampNeg (((6 : Int32) * (ps_i s 1131 22)) + (ps_a s 1135 (Int32.toNatClampNeg (ps_i s 1131 22)))) : Nat) : Int) < 6 * (ps_i s 1131 22).toInt + 6 from by omega) (fun j hj => ua_ne hj))) hC5 hC6 hC7 (show (ps_i s 1131 8).toInt ≤ (ps_i s 1131 4).toInt from by omega) (show (ps_i s 1131 22).toInt = (ps_i s0 1131 22).toInt from by omega) (show (x1.toInt ≠ 0 ∧ c5 < 6) ∨ (x1.toInt = 0 ∧ c6 < 4) from by omega) ((by rcases i8 with z | z; exact Or.inl z; exact Or.inr ⟨fun _ => (show 0 ≤ (ps_a (ps_ua s 1138 (Int32.toNatClampNeg (((6 : Int32) * (ps_i s 1131 22)) + (ps_a s 1135 (Int32.toNatClampNeg (ps_i s 1131 22))))) (ps_i s 1131 10)) 1138 (6 * (ps_i s 1131 22).toInt.toNat + c5.toNat)).toInt ∧ (ps_a (ps_ua s 1138 (Int32.toNatClampNeg (((6 : Int32) * (ps_i s 1131 22)) + (ps_a s 1135 (Int32.toNatClampNeg (ps_i s 1131 22))))) (ps_i s 1131 10)) 1138 (6 * (ps_i s 1131 22).toInt.toNat + c5.toNat)).toInt ≤ 2 from by rw [show (ps_a (ps_ua s 1138 (Int32.toNatClampNeg (((6 : Int32) * (ps_i s 1131 22)) + (ps_a s 1135 (Int32.toNatClampNeg (ps_i s 1131 22))))) (ps_i s 1131 10)) 1138 (6 * (ps_i s 1131 22).toInt.toNat + c5.toNat)) = ps_i s 1131 10 from (by rw [← eI]; exact ua_eq)]; omega), fun q => absurd q (by omega)⟩))

theorem ms_204_91 {x : Nat → Nat → Nat} {t : Int32} {d : Nat} {s0 : ps_S} {σ : mSig} {c5 c6 c7 : Int} {Q : Option Value → ps_S → Prop} (k : ∀ (s' : ps_S), mJ x t s' → kp [1134, 1135, 1136, 1137, 1138, 1139, 1140, 1141, 1142, 1143, 1144, 1145, 1146, 1147, 1148] [5, 6, 7, 8, 9, 10, 11, 23, 29, 30, 31, 32] s0 s' → ((ps_i s' 1131 8).toInt ≤ (ps_i s' 1131 4).toInt) → (1 ≤ (ps_i s' 1131 5).toInt ∨ ∃ τ, TH τ (ps_a s' 1134) (ps_a s' 1135) (ps_a s' 1136) (ps_a s' 1137) (ps_a s' 1138) (ps_a s' 1139) (ps_i s' 1131 22).toInt) → (KB (ps_i s' 1131 22).toInt (ps_a s0 1134) (ps_a s0 1135) (ps_a s0 1136) (ps_a s0 1137) (ps_a s0 1138) (ps_a s0 1139) (ps_a s' 1134) (ps_a s' 1135) (ps_a s' 1136) (ps_a s' 1137) (ps_a s' 1138) (ps_a s' 1139)) → (1 ≤ (ps_i s' 1131 5).toInt ∨ (ps_a s' 1135 (Int32.toNatClampNeg (ps_i s' 1131 22))).toInt + (ps_a s' 1136 (Int32.toNatClampNeg (ps_i s' 1131 22))).toInt + (ps_a s' 1137 (Int32.toNatClampNeg (ps_i s' 1131 22))).toInt = c5 + c6 + c7 + 1) → (c5 + c6 + c7 ≤ (ps_a s' 1135 (Int32.toNatClampNeg (ps_i s' 1131 22))).toInt + (ps_a s' 1136 (Int32.toNatClampNeg (ps_i s' 1131 22))).toInt + (ps_a s' 1137 (Int32.toNatClampNeg (ps_i s' 1131 22))).toInt) → Q none s') (x1 : Int32) (x2 : Int32) (s : ps_S) (J : mJ x t s) (K : kp [1134, 1135, 1136, 1137, 1138, 1139, 1140, 1141, 1142, 1143, 1144, 1145, 1146, 1147, 1148] [5, 6, 7, 8, 9, 10, 11, 23, 29, 30, 31, 32] s0 s) (hT : TH σ (ps_a s 1134) (ps_a s 1135) (ps_a s 1136) (ps_a s 1137) (ps_a s 1138) (ps_a s 1139) (ps_i s 1131 22).toInt) (hK : KB (ps_i s 1131 22).toInt (ps_a s0 1134) (ps_a s0 1135) (ps_a s0 1136) (ps_a s0 1137) (ps_a s0 1138) (ps_a s0 1139) (ps_a s 1134) (ps_a s 1135) (ps_a s 1136) (ps_a s 1137) (ps_a s 1138) (ps_a s 1139)) (hC5 : (ps_a s 1135 (Int32.toNatClampNeg (ps_i s 1131 22))).toInt = c5) (hC6 : (ps_a s 1136 (Int32.toNatClampNeg (ps_i s 1131 22))).toInt = c6) (hC7 : (ps_a s 1137 (Int32.toNatClampNeg (ps_i s 1131 22))).toInt = c7) (i5 : (ps_i s 1131 8).toInt ≤ (ps_i s 1131 4).toInt) (i6 : (ps_i s 1131 22).toInt = (ps_i s0 1131 22).toInt) (i7 : 1 ≤ (ps_i s 1131 5).toInt ∨ (x1.toInt ≠ 0 ∧ x2.toInt = 0 ∧ c5 < 6) ∨ (x1.toInt = 0 ∧ x2.toInt = 0 ∧ c6 < 4) ∨ (x1.toInt = 0 ∧ x2.toInt ≠ 0 ∧ c7 < 8)) : ps_At (d + 6) 204 91 [(0, .ref 1131), (1, .int x1), (2, .int x2)] [] s Q := by
  have r1 := mf_8 J
  have r2 := mf_4 J
  have r3 := mf_22 J
  have r4 := mf_5 J
  refine pg_204_91 (d := d + 5) ?_
  refine ms_192 J  (fun v5 p5_0 b5 => ?_)
  have p5_0' : (v5.toInt = 0 ∧ 1 ≤ (ps_i s 1131 5).toInt) ∨ (v5.toInt = 1 ∧ (ps_i s 1131 5).toInt = 0) := p5_0
  refine And.intro (fun h6 => ?_) (fun h6 => ?_)
  · have f7 : v5.toInt ≠ (0 : Int) := xne h6
    have qz7 : (ps_i s 1131 5).toInt = 0 := by omega
    clear p5_0' p5_0
    refine ms_194 J (show (ps_i s 1131 8).toInt ≤ (ps_i s 1131 4).toInt from by omega) (fun s8 J8 K8 p8_0 => ?_)
    have K9 := kpt K K8 rfl rfl
    have KC := K8
    have hT : TH σ (ps_a s8 1134) (ps_a s8 1135) (ps_a s8 1136) (ps_a s8 1137) (ps_a s8 1138) (ps_a s8 1139) (ps_i s8 1131 22).toInt := by rw [show ps_a s8 1134 = ps_a s 1134 from (K8.2 1134 rfl).1, show ps_a s8 1135 = ps_a s 1135 from (K8.2 1135 rfl).1, show ps_a s8 1136 = ps_a s 1136 from (K8.2 1136 rfl).1, show ps_a s8 1137 = ps_a s 1137 from (K8.2 1137 rfl).1, show ps_a s8 1138 = ps_a s 1138 from (K8.2 1138 rfl).1, show ps_a s8 1139 = ps_a s 1139 from (K8.2 1139 rfl).1, show ps_i s8 1131 22 = ps_i s 1131 22 from kp_i K8 22 rfl]; exact hT
    have hK : KB (ps_i s8 1131 22).toInt (ps_a s0 1134) (ps_a s0 1135) (ps_a s0 1136) (ps_a s0 1137) (ps_a s0 1138) (ps_a s0 1139) (ps_a s8 1134) (ps_a s8 1135) (ps_a s8 1136) (ps_a s8 1137) (ps_a s8 1138) (ps_a s8 1139) := by rw [show ps_a s8 1134 = ps_a s 1134 from (K8.2 1134 rfl).1, show ps_a s8 1135 = ps_a s 1135 from (K8.2 1135 rfl).1, show ps_a s8 1136 = ps_a s 1136 from (K8.2 1136 rfl).1, show ps_a s8 1137 = ps_a s 1137 from (K8.2 1137 rfl).1, show ps_a s8 1138 = ps_a s 1138 from (K8.2 1138 rfl).1, show ps_a s8 1139 = ps_a s 1139 from (K8.2 1139 rfl).1, show ps_i s8 1131 22 = ps_i s 1131 22 from kp_i K8 22 rfl]; exact hK
    have hC5 : (ps_a s8 1135 (Int32.toNatClampNeg (ps_i s8 1131 22))).toInt = c5 := by rw [show ps_a s8 1135 = ps_a s 1135 from (K8.2 1135 rfl).1, show ps_i s8 1131 22 = ps_i s 1131 22 from kp_i K8 22 rfl]; exact hC5
    have hC6 : (ps_a s8 1136 (Int32.toNatClampNeg (ps_i s8 1131 22))).toInt = c6 := by rw [show ps_a s8 1136 = ps_a s 1136 from (K8.2 1136 rfl).1, show ps_i s8 1131 22 = ps_i s 1131 22 from kp_i K8 22 rfl]; exact hC6
    have hC7 : (ps_a s8 1137 (Int32.toNatClampNeg (ps_i s8 1131 22))).toInt = c7 := by rw [show ps_a s8 1137 = ps_a s 1137 from (K8.2 1137 rfl).1, show ps_i s8 1131 22 = ps_i s 1131 22 from kp_i K8 22 rfl]; exact hC7
    have p8_0' : (ps_i s8 1131 8).toInt ≤ (ps_i s8 1131 4).toInt := p8_0
    have r10 := mf_8 J8
    have r11 := mf_4 J8
    have u12 : (ps_i s8 1131 4).toInt = (ps_i s 1131 4).toInt := xeq (kp_i K8 4 rfl)
    refine And.intro (fun h13 => ?_) (fun h13 => ?_)
    · have f14 : x2.toInt = (0 : Int) := xeq h13
      have r15 := mf_9 J8
      refine And.intro (fun h16 => ?_) (fun h16 => ?_)
      · have f17 : (ps_i s8 1131 9).toInt = (4 : Int) := xeq h16
        have r18 := mf_10 J8
        refine And.intro (fun h19 => ?_) (fun h19 => ?_)
        · have f20 : (ps_i s8 1131 10).toInt ≤ (2 : Int) := xle h19
          have r21 := mf_22 J8
          have u22 : (ps_i s8 1131 22).toInt = (ps_i s 1131 22).toInt := xeq (kp_i K8 22 rfl)
          have r23 := mf_5 J8
          have u24 : (ps_i s8 1131 5).toInt = (ps_i s 1131 5).toInt := xeq (kp_i K8 5 rfl)
          exact ms_204_213 (σ := σ) (c5 := c5) (c6 := c6) (c7 := c7) k  x1 (ps_j s 1131 11) _ J8 K9 hT hK hC5 hC6 hC7 (show (ps_i s8 1131 8).toInt ≤ (ps_i s8 1131 4).toInt from by omega) (show (ps_i s8 1131 22).toInt = (ps_i s0 1131 22).toInt from by omega) (show (x1.toInt ≠ 0 ∧ c5 < 6) ∨ (x1.toInt = 0 ∧ c6 < 4) from by omega) (show 1 ≤ (ps_i s8 1131 5).toInt ∨ (ps_i s8 1131 10).toInt ≤ 2 from by omega)
        · have f25 : (2 : Int) < (ps_i s8 1131 10).toInt := xlt h19
          have r26 := mf_7 J8
          refine ms_191 J8 (show 1 ≤ (4 : Int) from by omega) (show (4 : Int) ≤ 6 from by omega) (fun s27 J27 K27 p27_0 => ?_)
          have K28 := kpt K9 K27 rfl rfl
          have KC := K27
          have hT : TH σ (ps_a s27 1134) (ps_a s27 1135) (ps_a s27 1136) (ps_a s27 1137) (ps_a s27 1138) (ps_a s27 1139) (ps_i s27 1131 22).toInt := by rw [show ps_a s27 1134 = ps_a s8 1134 from (K27.2 1134 rfl).1, show ps_a s27 1135 = ps_a s8 1135 from (K27.2 1135 rfl).1, show ps_a s27 1136 = ps_a s8 1136 from (K27.2 1136 rfl).1, show ps_a s27 1137 = ps_a s8 1137 from (K27.2 1137 rfl).1, show ps_a s27 1138 = ps_a s8 1138 from (K27.2 1138 rfl).1, show ps_a s27 1139 = ps_a s8 1139 from (K27.2 1139 rfl).1, show ps_i s27 1131 22 = ps_i s8 1131 22 from kp_i K27 22 rfl]; exact hT
          have hK : KB (ps_i s27 1131 22).toInt (ps_a s0 1134) (ps_a s0 1135) (ps_a s0 1136) (ps_a s0 1137) (ps_a s0 1138) (ps_a s0 1139) (ps_a s27 1134) (ps_a s27 1135) (ps_a s27 1136) (ps_a s27 1137) (ps_a s27 1138) (ps_a s27 1139) := by rw [show ps_a s27 1134 = ps_a s8 1134 from (K27.2 1134 rfl).1, show ps_a s27 1135 = ps_a s8 1135 from (K27.2 1135 rfl).1, show ps_a s27 1136 = ps_a s8 1136 from (K27.2 1136 rfl).1, show ps_a s27 1137 = ps_a s8 1137 from (K27.2 1137 rfl).1, show ps_a s27 1138 = ps_a s8 1138 from (K27.2 1138 rfl).1, show ps_a s27 1139 = ps_a s8 1139 from (K27.2 1139 rfl).1, show ps_i s27 1131 22 = ps_i s8 1131 22 from kp_i K27 22 rfl]; exact hK
          have hC5 : (ps_a s27 1135 (Int32.toNatClampNeg (ps_i s27 1131 22))).toInt = c5 := by rw [show ps_a s27 1135 = ps_a s8 1135 from (K27.2 1135 rfl).1, show ps_i s27 1131 22 = ps_i s8 1131 22 from kp_i K27 22 rfl]; exact hC5
          have hC6 : (ps_a s27 1136 (Int32.toNatClampNeg (ps_i s27 1131 22))).toInt = c6 := by rw [show ps_a s27 1136 = ps_a s8 1136 from (K27.2 1136 rfl).1, show ps_i s27 1131 22 = ps_i s8 1131 22 from kp_i K27 22 rfl]; exact hC6
          have hC7 : (ps_a s27 1137 (Int32.toNatClampNeg (ps_i s27 1131 22))).toInt = c7 := by rw [show ps_a s27 1137 = ps_a s8 1137 from (K27.2 1137 rfl).1, show ps_i s27 1131 22 = ps_i s8 1131 22 from kp_i K27 22 rfl]; exact hC7
          have p27_0' : 1 ≤ (ps_i s27 1131 5).toInt := p27_0
          have r29 := mf_5 J27
          have r30 := mf_8 J27
          have u31 : (ps_i s27 1131 8).toInt = (ps_i s8 1131 8).toInt := xeq (kp_i K27 8 rfl)
          have r32 := mf_4 J27
          have u33 : (ps_i s27 1131 4).toInt = (ps_i s8 1131 4).toInt := xeq (kp_i K27 4 rfl)
          have r34 := mf_22 J27
          have u35 : (ps_i s27 1131 22).toInt = (ps_i s8 1131 22).toInt := xeq (kp_i K27 22 rfl)
          have r36 := mf_22 J8
          have u37 : (ps_i s8 1131 22).toInt = (ps_i s 1131 22).toInt := xeq (kp_i K8 22 rfl)
          have r38 := mf_10 J27
          have u39 : (ps_i s27 1131 10).toInt = (ps_i s8 1131 10).toInt := xeq (kp_i K27 10 rfl)
          exact ms_204_213 (σ := σ) (c5 := c5) (c6 := c6) (c7 := c7) k  x1 (ps_j s 1131 11) _ J27 K28 hT hK hC5 hC6 hC7 (show (ps_i s27 1131 8).toInt ≤ (ps_i s27 1131 4).toInt from by omega) (show (ps_i s27 1131 22).toInt = (ps_i s0 1131 22).toInt from by omega) (show (x1.toInt ≠ 0 ∧ c5 < 6) ∨ (x1.toInt = 0 ∧ c6 < 4) from by omega) (show 1 ≤ (ps_i s27 1131 5).toInt ∨ (ps_i s27 1131 10).toInt ≤ 2 from by omega)
      · have f40 : (ps_i s8 1131 9).toInt ≠ (4 : Int) := xne h16
        refine ms_196 J8  (fun s41 J41 K41 p41_0 => ?_)
        have K42 := kpt K9 K41 rfl rfl
        have KC := K41
        have hT : TH σ (ps_a s41 1134) (ps_a s41 1135) (ps_a s41 1136) (ps_a s41 1137) (ps_a s41 1138) (ps_a s41 1139) (ps_i s41 1131 22).toInt := by rw [show ps_a s41 1134 = ps_a s8 1134 from (K41.2 1134 rfl).1, show ps_a s41 1135 = ps_a s8 1135 from (K41.2 1135 rfl).1, show ps_a s41 1136 = ps_a s8 1136 from (K41.2 1136 rfl).1, show ps_a s41 1137 = ps_a s8 1137 from (K41.2 1137 rfl).1, show ps_a s41 1138 = ps_a s8 1138 from (K41.2 1138 rfl).1, show ps_a s41 1139 = ps_a s8 1139 from (K41.2 1139 rfl).1, show ps_i s41 1131 22 = ps_i s8 1131 22 from kp_i K41 22 rfl]; exact hT
        have hK : KB (ps_i s41 1131 22).toInt (ps_a s0 1134) (ps_a s0 1135) (ps_a s0 1136) (ps_a s0 1137) (ps_a s0 1138) (ps_a s0 1139) (ps_a s41 1134) (ps_a s41 1135) (ps_a s41 1136) (ps_a s41 1137) (ps_a s41 1138) (ps_a s41 1139) := by rw [show ps_a s41 1134 = ps_a s8 1134 from (K41.2 1134 rfl).1, show ps_a s41 1135 = ps_a s8 1135 from (K41.2 1135 rfl).1, show ps_a s41 1136 = ps_a s8 1136 from (K41.2 1136 rfl).1, show ps_a s41 1137 = ps_a s8 1137 from (K41.2 1137 rfl).1, show ps_a s41 1138 = ps_a s8 1138 from (K41.2 1138 rfl).1, show ps_a s41 1139 = ps_a s8 1139 from (K41.2 1139 rfl).1, show ps_i s41 1131 22 = ps_i s8 1131 22 from kp_i K41 22 rfl]; exact hK
        have hC5 : (ps_a s41 1135 (Int32.toNatClampNeg (ps_i s41 1131 22))).toInt = c5 := by rw [show ps_a s41 1135 = ps_a s8 1135 from (K41.2 1135 rfl).1, show ps_i s41 1131 22 = ps_i s8 1131 22 from kp_i K41 22 rfl]; exact hC5
        have hC6 : (ps_a s41 1136 (Int32.toNatClampNeg (ps_i s41 1131 22))).toInt = c6 := by rw [show ps_a s41 1136 = ps_a s8 1136 from (K41.2 1136 rfl).1, show ps_i s41 1131 22 = ps_i s8 1131 22 from kp_i K41 22 rfl]; exact hC6
        have hC7 : (ps_a s41 1137 (Int32.toNatClampNeg (ps_i s41 1131 22))).toInt = c7 := by rw [show ps_a s41 1137 = ps_a s8 1137 from (K41.2 1137 rfl).1, show ps_i s41 1131 22 = ps_i s8 1131 22 from kp_i K41 22 rfl]; exact hC7
        have p41_0' : 1 ≤ (ps_i s41 1131 5).toInt := p41_0
        have r43 := mf_5 J41
        have r44 := mf_8 J41
        have u45 : (ps_i s41 1131 8).toInt = (ps_i s8 1131 8).toInt := xeq (kp_i K41 8 rfl)
        have r46 := mf_4 J41
        have u47 : (ps_i s41 1131 4).toInt = (ps_i s8 1131 4).toInt := xeq (kp_i K41 4 rfl)
        have r48 := mf_22 J41
        have u49 : (ps_i s41 1131 22).toInt = (ps_i s8 1131 22).toInt := xeq (kp_i K41 22 rfl)
        have r50 := mf_22 J8
        have u51 : (ps_i s8 1131 22).toInt = (ps_i s 1131 22).toInt := xeq (kp_i K8 22 rfl)
        have r52 := mf_10 J41
        have u53 : (ps_i s41 1131 10).toInt = (ps_i s8 1131 10).toInt := xeq (kp_i K41 10 rfl)
        have r54 := mf_10 J8
        exact ms_204_213 (σ := σ) (c5 := c5) (c6 := c6) (c7 := c7) k  x1 (ps_j s 1131 11) _ J41 K42 hT hK hC5 hC6 hC7 (show (ps_i s41 1131 8).toInt ≤ (ps_i s41 1131 4).toInt from by omega) (show (ps_i s41 1131 22).toInt = (ps_i s0 1131 22).toInt from by omega) (show (x1.toInt ≠ 0 ∧ c5 < 6) ∨ (x1.toInt = 0 ∧ c6 < 4) from by omega) (show 1 ≤ (ps_i s41 1131 5).toInt ∨ (ps_i s41 1131 10).toInt ≤ 2 from by omega)
    · have f55 : x2.toInt ≠ (0 : Int) := xne h13
      have r56 := mf_22 J8
      have u57 : (ps_i s8 1131 22).toInt = (ps_i s 1131 22).toInt := xeq (kp_i K8 22 rfl)
      have a58 : ((8 : Int32) * (ps_i s8 1131 22)).toInt = (8 : Int) * (ps_i s8 1131 22).toInt := xIm (show -2147483648 ≤ (8 : Int) * (ps_i s8 1131 22).toInt from by omega) (show (8 : Int) * (ps_i s8 1131 22).toInt < 2147483648 from by omega)
      refine ps_nd_i (show pm_in (ps_i s8 1131 22) 2 = true from xgi (show 0 ≤ (ps_i s8 1131 22).toInt from by omega) (show (ps_i s8 1131 22).toInt < 2 from by omega)) ?_
      have r59 : 0 ≤ (ps_a s8 1137 (Int32.toNatClampNeg (ps_i s8 1131 22))).toInt ∧ (ps_a s8 1137 (Int32.toNatClampNeg (ps_i s8 1131 22))).toInt ≤ 8 := ma_1137 (i := (ps_i s8 1131 22)) J8 (show 0 ≤ (ps_i s8 1131 22).toInt from by omega) (show (ps_i s8 1131 22).toInt < 2 from by omega)
      have u60 : (ps_a s8 1137 (Int32.toNatClampNeg (ps_i s8 1131 22))).toInt = (ps_a s 1137 (Int32.toNatClampNeg (ps_i s8 1131 22))).toInt := xeq (kp_a K8 1137 rfl _)
      have r61 : 0 ≤ (ps_a s 1137 (Int32.toNatClampNeg (ps_i s8 1131 22))).toInt ∧ (ps_a s 1137 (Int32.toNatClampNeg (ps_i s8 1131 22))).toInt ≤ 8 := ma_1137 (i := (ps_i s8 1131 22)) J (show 0 ≤ (ps_i s8 1131 22).toInt from by omega) (show (ps_i s8 1131 22).toInt < 2 from by omega)
      have a62 : (((8 : Int32) * (ps_i s8 1131 22)) + (ps_a s8 1137 (Int32.toNatClampNeg (ps_i s8 1131 22)))).toInt = ((8 : Int32) * (ps_i s8 1131 22)).toInt + (ps_a s8 1137 (Int32.toNatClampNeg (ps_i s8 1131 22))).toInt := xIa (show -2147483648 ≤ ((8 : Int32) * (ps_i s8 1131 22)).toInt + (ps_a s8 1137 (Int32.toNatClampNeg (ps_i s8 1131 22))).toInt from by omega) (show ((8 : Int32) * (ps_i s8 1131 22)).toInt + (ps_a s8 1137 (Int32.toNatClampNeg (ps_i s8 1131 22))).toInt < 2147483648 from by omega)
      refine ps_nd_i (show pm_in (((8 : Int32) * (ps_i s8 1131 22)) + (ps_a s8 1137 (Int32.toNatClampNeg (ps_i s8 1131 22)))) 16 = true from xgi (show 0 ≤ (((8 : Int32) * (ps_i s8 1131 22)) + (ps_a s8 1137 (Int32.toNatClampNeg (ps_i s8 1131 22)))).toInt from by omega) (show (((8 : Int32) * (ps_i s8 1131 22)) + (ps_a s8 1137 (Int32.toNatClampNeg (ps_i s8 1131 22)))).toInt < 16 from by omega)) ?_
      have J63 := mw_b (r := 1142) (i := (Int32.toNatClampNeg (((8 : Int32) * (ps_i s8 1131 22)) + (ps_a s8 1137 (Int32.toNatClampNeg (ps_i s8 1131 22)))))) (v := (ps_j s 1131 11)) J8
      have K64 := kpb' K9 (r := 1142) (i := (Int32.toNatClampNeg (((8 : Int32) * (ps_i s8 1131 22)) + (ps_a s8 1137 (Int32.toNatClampNeg (ps_i s8 1131 22)))))) (v := (ps_j s 1131 11)) rfl
      refine ps_nd_i (show pm_in (ps_i s8 1131 22) 2 = true from xgi (show 0 ≤ (ps_i s8 1131 22).toInt from by omega) (show (ps_i s8 1131 22).toInt < 2 from by omega)) ?_
      have a65 : ((41 : Int32) * (((8 : Int32) * (ps_i s8 1131 22)) + (ps_a s8 1137 (Int32.toNatClampNeg (ps_i s8 1131 22))))).toInt = (41 : Int) * (((8 : Int32) * (ps_i s8 1131 22)) + (ps_a s8 1137 (Int32.toNatClampNeg (ps_i s8 1131 22)))).toInt := xIm (show -2147483648 ≤ (41 : Int) * (((8 : Int32) * (ps_i s8 1131 22)) + (ps_a s8 1137 (Int32.toNatClampNeg (ps_i s8 1131 22)))).toInt from by omega) (show (41 : Int) * (((8 : Int32) * (ps_i s8 1131 22)) + (ps_a s8 1137 (Int32.toNatClampNeg (ps_i s8 1131 22)))).toInt < 2147483648 from by omega)
      have a66 : ((21812 : Int32) + ((41 : Int32) * (((8 : Int32) * (ps_i s8 1131 22)) + (ps_a s8 1137 (Int32.toNatClampNeg (ps_i s8 1131 22)))))).toInt = (21812 : Int) + ((41 : Int32) * (((8 : Int32) * (ps_i s8 1131 22)) + (ps_a s8 1137 (Int32.toNatClampNeg (ps_i s8 1131 22))))).toInt := xIa (show -2147483648 ≤ (21812 : Int) + ((41 : Int32) * (((8 : Int32) * (ps_i s8 1131 22)) + (ps_a s8 1137 (Int32.toNatClampNeg (ps_i s8 1131 22))))).toInt from by omega) (show (21812 : Int) + ((41 : Int32) * (((8 : Int32) * (ps_i s8 1131 22)) + (ps_a s8 1137 (Int32.toNatClampNeg (ps_i s8 1131 22))))).toInt < 2147483648 from by omega)
      have eA : (((21812 : Int32) + ((41 : Int32) * (((8 : Int32) * (ps_i s8 1131 22)) + (ps_a s8 1137 (Int32.toNatClampNeg (ps_i s8 1131 22))))))).toInt = 21812 + 41 * (8 * (ps_i s8 1131 22).toInt + c7) := by omega
      clear a58 a62 a65 a66
      have hS2 : Sg (ps_a (ps_ub s8 1142 (Int32.toNatClampNeg (((8 : Int32) * (ps_i s8 1131 22)) + (ps_a s8 1137 (Int32.toNatClampNeg (ps_i s8 1131 22))))) (ps_j s 1131 11)) 1135) (ps_a (ps_ub s8 1142 (Int32.toNatClampNeg (((8 : Int32) * (ps_i s8 1131 22)) + (ps_a s8 1137 (Int32.toNatClampNeg (ps_i s8 1131 22))))) (ps_j s 1131 11)) 1136) (ps_a (ps_ub s8 1142 (Int32.toNatClampNeg (((8 : Int32) * (ps_i s8 1131 22)) + (ps_a s8 1137 (Int32.toNatClampNeg (ps_i s8 1131 22))))) (ps_j s 1131 11)) 1138) (ps_a (ps_ub s8 1142 (Int32.toNatClampNeg (((8 : Int32) * (ps_i s8 1131 22)) + (ps_a s8 1137 (Int32.toNatClampNeg (ps_i s8 1131 22))))) (ps_j s 1131 11)) 1139) (ps_i (ps_ub s8 1142 (Int32.toNatClampNeg (((8 : Int32) * (ps_i s8 1131 22)) + (ps_a s8 1137 (Int32.toNatClampNeg (ps_i s8 1131 22))))) (ps_j s 1131 11)) 1131 22).toInt σ := hT.1
      obtain ⟨aa, haa⟩ : ∃ aa : Int, aa = 21812 + 41 * (8 * (ps_i s8 1131 22).toInt + c7) := ⟨_, rfl⟩
      obtain ⟨g0, hg0⟩ : ∃ g0 : Nat → Int32, g0 = ps_a (ps_ub s8 1142 (Int32.toNatClampNeg (((8 : Int32) * (ps_i s8 1131 22)) + (ps_a s8 1137 (Int32.toNatClampNeg (ps_i s8 1131 22))))) (ps_j s 1131 11)) 1134 := ⟨_, rfl⟩
      have hT0 : TH σ g0 (ps_a (ps_ub s8 1142 (Int32.toNatClampNeg (((8 : Int32) * (ps_i s8 1131 22)) + (ps_a s8 1137 (Int32.toNatClampNeg (ps_i s8 1131 22))))) (ps_j s 1131 11)) 1135) (ps_a (ps_ub s8 1142 (Int32.toNatClampNeg (((8 : Int32) * (ps_i s8 1131 22)) + (ps_a s8 1137 (Int32.toNatClampNeg (ps_i s8 1131 22))))) (ps_j s 1131 11)) 1136) (ps_a (ps_ub s8 1142 (Int32.toNatClampNeg (((8 : Int32) * (ps_i s8 1131 22)) + (ps_a s8 1137 (Int32.toNatClampNeg (ps_i s8 1131 22))))) (ps_j s 1131 11)) 1137) (ps_a (ps_ub s8 1142 (Int32.toNatClampNeg (((8 : Int32) * (ps_i s8 1131 22)) + (ps_a s8 1137 (Int32.toNatClampNeg (ps_i s8 1131 22))))) (ps_j s 1131 11)) 1138) (ps_a (ps_ub s8 1142 (Int32.toNatClampNeg (((8 : Int32) * (ps_i s8 1131 22)) + (ps_a s8 1137 (Int32.toNatClampNeg (ps_i s8 1131 22))))) (ps_j s 1131 11)) 1139) (ps_i (ps_ub s8 1142 (Int32.toNatClampNeg (((8 : Int32) * (ps_i s8 1131 22)) + (ps_a s8 1137 (Int32.toNatClampNeg (ps_i s8 1131 22))))) (ps_j s 1131 11)) 1131 22).toInt := by rw [hg0]; exact hT
      have hK0 : KB (ps_i (ps_ub s8 1142 (Int32.toNatClampNeg (((8 : Int32) * (ps_i s8 1131 22)) + (ps_a s8 1137 (Int32.toNatClampNeg (ps_i s8 1131 22))))) (ps_j s 1131 11)) 1131 22).toInt (ps_a s0 1134) (ps_a s0 1135) (ps_a s0 1136) (ps_a s0 1137) (ps_a s0 1138) (ps_a s0 1139) g0 (ps_a (ps_ub s8 1142 (Int32.toNatClampNeg (((8 : Int32) * (ps_i s8 1131 22)) + (ps_a s8 1137 (Int32.toNatClampNeg (ps_i s8 1131 22))))) (ps_j s 1131 11)) 1135) (ps_a (ps_ub s8 1142 (Int32.toNatClampNeg (((8 : Int32) * (ps_i s8 1131 22)) + (ps_a s8 1137 (Int32.toNatClampNeg (ps_i s8 1131 22))))) (ps_j s 1131 11)) 1136) (ps_a (ps_ub s8 1142 (Int32.toNatClampNeg (((8 : Int32) * (ps_i s8 1131 22)) + (ps_a s8 1137 (Int32.toNatClampNeg (ps_i s8 1131 22))))) (ps_j s 1131 11)) 1137) (ps_a (ps_ub s8 1142 (Int32.toNatClampNeg (((8 : Int32) * (ps_i s8 1131 22)) + (ps_a s8 1137 (Int32.toNatClampNeg (ps_i s8 1131 22))))) (ps_j s 1131 11)) 1138) (ps_a (ps_ub s8 1142 (Int32.toNatClampNeg (((8 : Int32) * (ps_i s8 1131 22)) + (ps_a s8 1137 (Int32.toNatClampNeg (ps_i s8 1131 22))))) (ps_j s 1131 11)) 1139) := by rw [hg0]; exact hK
      refine ms_209 (b := true) J63 hS2 (show ((21812 : Int32) + ((41 : Int32) * (((8 : Int32) * (ps_i s8 1131 22)) + (ps_a s8 1137 (Int32.toNatClampNeg (ps_i s8 1131 22)))))).toInt % 41 = 0 from by omega) (show 0 ≤ ((21812 : Int32) + ((41 : Int32) * (((8 : Int32) * (ps_i s8 1131 22)) + (ps_a s8 1137 (Int32.toNatClampNeg (ps_i s8 1131 22)))))).toInt from by omega) (show ((21812 : Int32) + ((41 : Int32) * (((8 : Int32) * (ps_i s8 1131 22)) + (ps_a s8 1137 (Int32.toNatClampNeg (ps_i s8 1131 22)))))).toInt < 27306 from by omega) (show (ps_i s8 1131 8).toInt ≤ (ps_i s8 1131 4).toInt from by omega) ((Or.inl ⟨by decide, rfl⟩)) ((by decide)) (fun s67 J67 K67 p67_0 p67_1 p67_2 p67_3 => ?_)
      have K68 := kpt K64 K67 rfl rfl
      have KC := K67
      have hC5 : (ps_a s67 1135 (Int32.toNatClampNeg (ps_i s67 1131 22))).toInt = c5 := by rw [show ps_a s67 1135 = ps_a (ps_ub s8 1142 (Int32.toNatClampNeg (((8 : Int32) * (ps_i s8 1131 22)) + (ps_a s8 1137 (Int32.toNatClampNeg (ps_i s8 1131 22))))) (ps_j s 1131 11)) 1135 from (K67.2 1135 rfl).1, show ps_i s67 1131 22 = ps_i (ps_ub s8 1142 (Int32.toNatClampNeg (((8 : Int32) * (ps_i s8 1131 22)) + (ps_a s8 1137 (Int32.toNatClampNeg (ps_i s8 1131 22))))) (ps_j s 1131 11)) 1131 22 from kp_i K67 22 rfl]; exact hC5
      have hC6 : (ps_a s67 1136 (Int32.toNatClampNeg (ps_i s67 1131 22))).toInt = c6 := by rw [show ps_a s67 1136 = ps_a (ps_ub s8 1142 (Int32.toNatClampNeg (((8 : Int32) * (ps_i s8 1131 22)) + (ps_a s8 1137 (Int32.toNatClampNeg (ps_i s8 1131 22))))) (ps_j s 1131 11)) 1136 from (K67.2 1136 rfl).1, show ps_i s67 1131 22 = ps_i (ps_ub s8 1142 (Int32.toNatClampNeg (((8 : Int32) * (ps_i s8 1131 22)) + (ps_a s8 1137 (Int32.toNatClampNeg (ps_i s8 1131 22))))) (ps_j s 1131 11)) 1131 22 from kp_i K67 22 rfl]; exact hC6
      have hC7 : (ps_a s67 1137 (Int32.toNatClampNeg (ps_i s67 1131 22))).toInt = c7 := by rw [show ps_a s67 1137 = ps_a (ps_ub s8 1142 (Int32.toNatClampNeg (((8 : Int32) * (ps_i s8 1131 22)) + (ps_a s8 1137 (Int32.toNatClampNeg (ps_i s8 1131 22))))) (ps_j s 1131 11)) 1137 from (K67.2 1137 rfl).1, show ps_i s67 1131 22 = ps_i (ps_ub s8 1142 (Int32.toNatClampNeg (((8 : Int32) * (ps_i s8 1131 22)) + (ps_a s8 1137 (Int32.toNatClampNeg (ps_i s8 1131 22))))) (ps_j s 1131 11)) 1131 22 from kp_i K67 22 rfl]; exact hC7
      have hS2 : Sg (ps_a s67 1135) (ps_a s67 1136) (ps_a s67 1138) (ps_a s67 1139) (ps_i s67 1131 22).toInt σ := by rw [show ps_a s67 1135 = ps_a (ps_ub s8 1142 (Int32.toNatClampNeg (((8 : Int32) * (ps_i s8 1131 22)) + (ps_a s8 1137 (Int32.toNatClampNeg (ps_i s8 1131 22))))) (ps_j s 1131 11)) 1135 from (K67.2 1135 rfl).1, show ps_a s67 1136 = ps_a (ps_ub s8 1142 (Int32.toNatClampNeg (((8 : Int32) * (ps_i s8 1131 22)) + (ps_a s8 1137 (Int32.toNatClampNeg (ps_i s8 1131 22))))) (ps_j s 1131 11)) 1136 from (K67.2 1136 rfl).1, show ps_a s67 1138 = ps_a (ps_ub s8 1142 (Int32.toNatClampNeg (((8 : Int32) * (ps_i s8 1131 22)) + (ps_a s8 1137 (Int32.toNatClampNeg (ps_i s8 1131 22))))) (ps_j s 1131 11)) 1138 from (K67.2 1138 rfl).1, show ps_a s67 1139 = ps_a (ps_ub s8 1142 (Int32.toNatClampNeg (((8 : Int32) * (ps_i s8 1131 22)) + (ps_a s8 1137 (Int32.toNatClampNeg (ps_i s8 1131 22))))) (ps_j s 1131 11)) 1139 from (K67.2 1139 rfl).1, show ps_i s67 1131 22 = ps_i (ps_ub s8 1142 (Int32.toNatClampNeg (((8 : Int32) * (ps_i s8 1131 22)) + (ps_a s8 1137 (Int32.toNatClampNeg (ps_i s8 1131 22))))) (ps_j s 1131 11)) 1131 22 from kp_i K67 22 rfl]; exact hS2
      have hT0 : TH σ g0 (ps_a s67 1135) (ps_a s67 1136) (ps_a s67 1137) (ps_a s67 1138) (ps_a s67 1139) (ps_i s67 1131 22).toInt := by rw [show ps_a s67 1135 = ps_a (ps_ub s8 1142 (Int32.toNatClampNeg (((8 : Int32) * (ps_i s8 1131 22)) + (ps_a s8 1137 (Int32.toNatClampNeg (ps_i s8 1131 22))))) (ps_j s 1131 11)) 1135 from (K67.2 1135 rfl).1, show ps_a s67 1136 = ps_a (ps_ub s8 1142 (Int32.toNatClampNeg (((8 : Int32) * (ps_i s8 1131 22)) + (ps_a s8 1137 (Int32.toNatClampNeg (ps_i s8 1131 22))))) (ps_j s 1131 11)) 1136 from (K67.2 1136 rfl).1, show ps_a s67 1137 = ps_a (ps_ub s8 1142 (Int32.toNatClampNeg (((8 : Int32) * (ps_i s8 1131 22)) + (ps_a s8 1137 (Int32.toNatClampNeg (ps_i s8 1131 22))))) (ps_j s 1131 11)) 1137 from (K67.2 1137 rfl).1, show ps_a s67 1138 = ps_a (ps_ub s8 1142 (Int32.toNatClampNeg (((8 : Int32) * (ps_i s8 1131 22)) + (ps_a s8 1137 (Int32.toNatClampNeg (ps_i s8 1131 22))))) (ps_j s 1131 11)) 1138 from (K67.2 1138 rfl).1, show ps_a s67 1139 = ps_a (ps_ub s8 1142 (Int32.toNatClampNeg (((8 : Int32) * (ps_i s8 1131 22)) + (ps_a s8 1137 (Int32.toNatClampNeg (ps_i s8 1131 22))))) (ps_j s 1131 11)) 1139 from (K67.2 1139 rfl).1, show ps_i s67 1131 22 = ps_i (ps_ub s8 1142 (Int32.toNatClampNeg (((8 : Int32) * (ps_i s8 1131 22)) + (ps_a s8 1137 (Int32.toNatClampNeg (ps_i s8 1131 22))))) (ps_j s 1131 11)) 1131 22 from kp_i K67 22 rfl]; exact hT0
      have hK0 : KB (ps_i s67 1131 22).toInt (ps_a s0 1134) (ps_a s0 1135) (ps_a s0 1136) (ps_a s0 1137) (ps_a s0 1138) (ps_a s0 1139) g0 (ps_a s67 1135) (ps_a s67 1136) (ps_a s67 1137) (ps_a s67 1138) (ps_a s67 1139) := by rw [show ps_a s67 1135 = ps_a (ps_ub s8 1142 (Int32.toNatClampNeg (((8 : Int32) * (ps_i s8 1131 22)) + (ps_a s8 1137 (Int32.toNatClampNeg (ps_i s8 1131 22))))) (ps_j s 1131 11)) 1135 from (K67.2 1135 rfl).1, show ps_a s67 1136 = ps_a (ps_ub s8 1142 (Int32.toNatClampNeg (((8 : Int32) * (ps_i s8 1131 22)) + (ps_a s8 1137 (Int32.toNatClampNeg (ps_i s8 1131 22))))) (ps_j s 1131 11)) 1136 from (K67.2 1136 rfl).1, show ps_a s67 1137 = ps_a (ps_ub s8 1142 (Int32.toNatClampNeg (((8 : Int32) * (ps_i s8 1131 22)) + (ps_a s8 1137 (Int32.toNatClampNeg (ps_i s8 1131 22))))) (ps_j s 1131 11)) 1137 from (K67.2 1137 rfl).1, show ps_a s67 1138 = ps_a (ps_ub s8 1142 (Int32.toNatClampNeg (((8 : Int32) * (ps_i s8 1131 22)) + (ps_a s8 1137 (Int32.toNatClampNeg (ps_i s8 1131 22))))) (ps_j s 1131 11)) 1138 from (K67.2 1138 rfl).1, show ps_a s67 1139 = ps_a (ps_ub s8 1142 (Int32.toNatClampNeg (((8 : Int32) * (ps_i s8 1131 22)) + (ps_a s8 1137 (Int32.toNatClampNeg (ps_i s8 1131 22))))) (ps_j s 1131 11)) 1139 from (K67.2 1139 rfl).1, show ps_i s67 1131 22 = ps_i (ps_ub s8 1142 (Int32.toNatClampNeg (((8 : Int32) * (ps_i s8 1131 22)) + (ps_a s8 1137 (Int32.toNatClampNeg (ps_i s8 1131 22))))) (ps_j s 1131 11)) 1131 22 from kp_i K67 22 rfl]; exact hK0
      have p67_0' : (ps_i s67 1131 8).toInt ≤ (ps_i s67 1131 4).toInt := p67_0
      have r69 := mf_8 J67
      have r70 := mf_4 J67
      have u71 : (ps_i s67 1131 4).toInt = (ps_i s8 1131 4).toInt := xeq (kp_i K67 4 rfl)
      have p67_1' : 1 ≤ (ps_i s8 1131 5).toInt → 1 ≤ (ps_i s67 1131 5).toInt := p67_1
      have r72 := mf_5 J67
      have r73 := mf_5 J8
      have u74 : (ps_i s8 1131 5).toInt = (ps_i s 1131 5).toInt := xeq (kp_i K8 5 rfl)
      have ho : _ := p67_2
      have hrow : _ := p67_3
      have ho : ∀ i : Nat, (i : Int) < ((21812 : Int32) + ((41 : Int32) * (((8 : Int32) * (ps_i s8 1131 22)) + (ps_a s8 1137 (Int32.toNatClampNeg (ps_i s8 1131 22)))))).toInt ∨ ((21812 : Int32) + ((41 : Int32) * (((8 : Int32) * (ps_i s8 1131 22)) + (ps_a s8 1137 (Int32.toNatClampNeg (ps_i s8 1131 22)))))).toInt + 41 ≤ (i : Int) → ps_a s67 1134 i = ps_a (ps_ub s8 1142 (Int32.toNatClampNeg (((8 : Int32) * (ps_i s8 1131 22)) + (ps_a s8 1137 (Int32.toNatClampNeg (ps_i s8 1131 22))))) (ps_j s 1131 11)) 1134 i := ho
      have hrow : 1 ≤ (ps_i s67 1131 5).toInt ∨ ∃ l2, Rw (ps_a s67 1134) ((21812 : Int32) + ((41 : Int32) * (((8 : Int32) * (ps_i s8 1131 22)) + (ps_a s8 1137 (Int32.toNatClampNeg (ps_i s8 1131 22)))))).toInt l2 ∧ wf σ 5 l2 [(true, 0)] ∧ ((1 : Int32).toInt ≠ 0 → ∀ p, p ∈ l2 → p < 60) := hrow
      rw [eA, ← haa] at ho hrow
      clear eA u60 r61 r59
      have ho2 : ∀ k : Nat, (k : Int) < aa ∨ aa + 41 ≤ (k : Int) → ps_a s67 1134 k = g0 k := fun k hk => (ho k hk).trans (congrFun hg0 k).symm
      have r75 := mf_22 J67
      have u76 : (ps_i s67 1131 22).toInt = (ps_i s8 1131 22).toInt := xeq (kp_i K67 22 rfl)
      refine ps_nd_i (show pm_in (ps_i s67 1131 22) 2 = true from xgi (show 0 ≤ (ps_i s67 1131 22).toInt from by omega) (show (ps_i s67 1131 22).toInt < 2 from by omega)) ?_
      have r77 : 0 ≤ (ps_a s67 1137 (Int32.toNatClampNeg (ps_i s67 1131 22))).toInt ∧ (ps_a s67 1137 (Int32.toNatClampNeg (ps_i s67 1131 22))).toInt ≤ 8 := ma_1137 (i := (ps_i s67 1131 22)) J67 (show 0 ≤ (ps_i s67 1131 22).toInt from by omega) (show (ps_i s67 1131 22).toInt < 2 from by omega)
      have u78 : (ps_a s67 1137 (Int32.toNatClampNeg (ps_i s67 1131 22))).toInt = (ps_a s8 1137 (Int32.toNatClampNeg (ps_i s67 1131 22))).toInt := xeq (kp_a K67 1137 rfl _)
      have r79 : 0 ≤ (ps_a s8 1137 (Int32.toNatClampNeg (ps_i s67 1131 22))).toInt ∧ (ps_a s8 1137 (Int32.toNatClampNeg (ps_i s67 1131 22))).toInt ≤ 8 := ma_1137 (i := (ps_i s67 1131 22)) J8 (show 0 ≤ (ps_i s67 1131 22).toInt from by omega) (show (ps_i s67 1131 22).toInt < 2 from by omega)
      have u80 : (ps_a s8 1137 (Int32.toNatClampNeg (ps_i s67 1131 22))).toInt = (ps_a s 1137 (Int32.toNatClampNeg (ps_i s67 1131 22))).toInt := xeq (kp_a K8 1137 rfl _)
      have r81 : 0 ≤ (ps_a s 1137 (Int32.toNatClampNeg (ps_i s67 1131 22))).toInt ∧ (ps_a s 1137 (Int32.toNatClampNeg (ps_i s67 1131 22))).toInt ≤ 8 := ma_1137 (i := (ps_i s67 1131 22)) J (show 0 ≤ (ps_i s67 1131 22).toInt from by omega) (show (ps_i s67 1131 22).toInt < 2 from by omega)
      have a82 : ((ps_a s67 1137 (Int32.toNatClampNeg (ps_i s67 1131 22))) + 1).toInt = (ps_a s67 1137 (Int32.toNatClampNeg (ps_i s67 1131 22))).toInt + (1 : Int) := xIa (show -2147483648 ≤ (ps_a s67 1137 (Int32.toNatClampNeg (ps_i s67 1131 22))).toInt + (1 : Int) from by omega) (show (ps_a s67 1137 (Int32.toNatClampNeg (ps_i s67 1131 22))).toInt + (1 : Int) < 2147483648 from by omega)
      refine ps_nd_i (show pm_in (ps_i s67 1131 22) 2 = true from xgi (show 0 ≤ (ps_i s67 1131 22).toInt from by omega) (show (ps_i s67 1131 22).toInt < 2 from by omega)) ?_
      have J83 := mwa_1137 (i := (Int32.toNatClampNeg (ps_i s67 1131 22))) (v := ((ps_a s67 1137 (Int32.toNatClampNeg (ps_i s67 1131 22))) + 1)) J67 (show 0 ≤ ((ps_a s67 1137 (Int32.toNatClampNeg (ps_i s67 1131 22))) + 1).toInt from by omega) (show ((ps_a s67 1137 (Int32.toNatClampNeg (ps_i s67 1131 22))) + 1).toInt ≤ 8 from by omega)
      have K84 := kpa' K68 (r := 1137) (i := (Int32.toNatClampNeg (ps_i s67 1131 22))) (v := ((ps_a s67 1137 (Int32.toNatClampNeg (ps_i s67 1131 22))) + 1)) rfl
      exact ms_204_360 (σ := σ) (c5 := c5) (c6 := c6) (c7 := c7) k   _ J83 K84 (show (ps_i s67 1131 8).toInt ≤ (ps_i s67 1131 4).toInt from by omega) ((by rcases hrow with z | z; exact Or.inl (show 1 ≤ (ps_i s67 1131 5).toInt from by omega); have z7 : (ps_a (ps_ua s67 1137 (Int32.toNatClampNeg (ps_i s67 1131 22)) ((ps_a s67 1137 (Int32.toNatClampNeg (ps_i s67 1131 22))) + 1)) 1137 (Int32.toNatClampNeg (ps_i s67 1131 22))).toInt = c7 + 1 := (by rw [show ps_a (ps_ua s67 1137 (Int32.toNatClampNeg (ps_i s67 1131 22)) ((ps_a s67 1137 (Int32.toNatClampNeg (ps_i s67 1131 22))) + 1)) 1137 (Int32.toNatClampNeg (ps_i s67 1131 22)) = (ps_a s67 1137 (Int32.toNatClampNeg (ps_i s67 1131 22))) + 1 from ua_eq]; omega); exact Or.inr ⟨σ, TH_ax hT0 hC7 (show aa = 21812 + 41 * (8 * (ps_i s67 1131 22).toInt + c7) from by omega) (by omega) ho2 (by obtain ⟨l2, g1, g2, g3⟩ := z; exact ⟨l2, g1, g2, g3 (by decide)⟩) z7⟩)) ((KB_7 (i := (Int32.toNatClampNeg (ps_i s67 1131 22))) (KB_p hK0 (show 21812 + 328 * (ps_i s67 1131 22).toInt ≤ aa ∧ aa + 41 ≤ 21812 + 328 * (ps_i s67 1131 22).toInt + 328 from by omega) ho2) (show (((Int32.toNatClampNeg (ps_i s67 1131 22)) : Nat) : Int) = (ps_i s67 1131 22).toInt from by rw [nx (n := (ps_i s67 1131 22).toInt) rfl]; omega) (fun j hj => ua_ne hj))) ((by have z7 : (ps_a (ps_ua s67 1137 (Int32.toNatClampNeg (ps_i s67 1131 22)) ((ps_a s67 1137 (Int32.toNatClampNeg (ps_i s67 1131 22))) + 1)) 1137 (Int32.toNatClampNeg (ps_i s67 1131 22))).toInt = c7 + 1 := (by rw [show ps_a (ps_ua s67 1137 (Int32.toNatClampNeg (ps_i s67 1131 22)) ((ps_a s67 1137 (Int32.toNatClampNeg (ps_i s67 1131 22))) + 1)) 1137 (Int32.toNatClampNeg (ps_i s67 1131 22)) = (ps_a s67 1137 (Int32.toNatClampNeg (ps_i s67 1131 22))) + 1 from ua_eq]; omega); exact Or.inr (show (ps_a s67 1135 (Int32.toNatClampNeg (ps_i s67 1131 22))).toInt + (ps_a s67 1136 (Int32.toNatClampNeg (ps_i s67 1131 22))).toInt + (ps_a (ps_ua s67 1137 (Int32.toNatClampNeg (ps_i s67 1131 22)) ((ps_a s67 1137 (Int32.toNatClampNeg (ps_i s67 1131 22))) + 1)) 1137 (Int32.toNatClampNeg (ps_i s67 1131 22))).toInt = c5 + c6 + c7 + 1 from by omega))) ((by have z7 : (ps_a (ps_ua s67 1137 (Int32.toNatClampNeg (ps_i s67 1131 22)) ((ps_a s67 1137 (Int32.toNatClampNeg (ps_i s67 1131 22))) + 1)) 1137 (Int32.toNatClampNeg (ps_i s67 1131 22))).toInt = c7 + 1 := (by rw [show ps_a (ps_ua s67 1137 (Int32.toNatClampNeg (ps_i s67 1131 22)) ((ps_a s67 1137 (Int32.toNatClampNeg (ps_i s67 1131 22))) + 1)) 1137 (Int32.toNatClampNeg (ps_i s67 1131 22)) = (ps_a s67 1137 (Int32.toNatClampNeg (ps_i s67 1131 22))) + 1 from ua_eq]; omega); exact (show c5 + c6 + c7 ≤ (ps_a s67 1135 (Int32.toNatClampNeg (ps_i s67 1131 22))).toInt + (ps_a s67 1136 (Int32.toNatClampNeg (ps_i s67 1131 22))).toInt + (ps_a (ps_ua s67 1137 (Int32.toNatClampNeg (ps_i s67 1131 22)) ((ps_a s67 1137 (Int32.toNatClampNeg (ps_i s67 1131 22))) + 1)) 1137 (Int32.toNatClampNeg (ps_i s67 1131 22))).toInt from by omega))) (show (ps_i s67 1131 22).toInt = (ps_i s0 1131 22).toInt from by omega)
  · have f85 : v5.toInt = (0 : Int) := xeq h6
    have qz85 : 1 ≤ (ps_i s 1131 5).toInt := by omega
    clear p5_0' p5_0
    exact k _ J K (show (ps_i s 1131 8).toInt ≤ (ps_i s 1131 4).toInt from by omega) (Or.inl (show 1 ≤ (ps_i s 1131 5).toInt from by omega)) (hK) (Or.inl (show 1 ≤ (ps_i s 1131 5).toInt from by omega)) ((by omega))

theorem ms_204_82 {x : Nat → Nat → Nat} {t : Int32} {d : Nat} {s0 : ps_S} {σ : mSig} {c5 c6 c7 : Int} {Q : Option Value → ps_S → Prop} (k : ∀ (s' : ps_S), mJ x t s' → kp [1134, 1135, 1136, 1137, 1138, 1139, 1140, 1141, 1142, 1143, 1144, 1145, 1146, 1147, 1148] [5, 6, 7, 8, 9, 10, 11, 23, 29, 30, 31, 32] s0 s' → ((ps_i s' 1131 8).toInt ≤ (ps_i s' 1131 4).toInt) → (1 ≤ (ps_i s' 1131 5).toInt ∨ ∃ τ, TH τ (ps_a s' 1134) (ps_a s' 1135) (ps_a s' 1136) (ps_a s' 1137) (ps_a s' 1138) (ps_a s' 1139) (ps_i s' 1131 22).toInt) → (KB (ps_i s' 1131 22).toInt (ps_a s0 1134) (ps_a s0 1135) (ps_a s0 1136) (ps_a s0 1137) (ps_a s0 1138) (ps_a s0 1139) (ps_a s' 1134) (ps_a s' 1135) (ps_a s' 1136) (ps_a s' 1137) (ps_a s' 1138) (ps_a s' 1139)) → (1 ≤ (ps_i s' 1131 5).toInt ∨ (ps_a s' 1135 (Int32.toNatClampNeg (ps_i s' 1131 22))).toInt + (ps_a s' 1136 (Int32.toNatClampNeg (ps_i s' 1131 22))).toInt + (ps_a s' 1137 (Int32.toNatClampNeg (ps_i s' 1131 22))).toInt = c5 + c6 + c7 + 1) → (c5 + c6 + c7 ≤ (ps_a s' 1135 (Int32.toNatClampNeg (ps_i s' 1131 22))).toInt + (ps_a s' 1136 (Int32.toNatClampNeg (ps_i s' 1131 22))).toInt + (ps_a s' 1137 (Int32.toNatClampNeg (ps_i s' 1131 22))).toInt) → Q none s') (x1 : Int32) (x2 : Int32) (s : ps_S) (J : mJ x t s) (K : kp [1134, 1135, 1136, 1137, 1138, 1139, 1140, 1141, 1142, 1143, 1144, 1145, 1146, 1147, 1148] [5, 6, 7, 8, 9, 10, 11, 23, 29, 30, 31, 32] s0 s) (hT : TH σ (ps_a s 1134) (ps_a s 1135) (ps_a s 1136) (ps_a s 1137) (ps_a s 1138) (ps_a s 1139) (ps_i s 1131 22).toInt) (hK : KB (ps_i s 1131 22).toInt (ps_a s0 1134) (ps_a s0 1135) (ps_a s0 1136) (ps_a s0 1137) (ps_a s0 1138) (ps_a s0 1139) (ps_a s 1134) (ps_a s 1135) (ps_a s 1136) (ps_a s 1137) (ps_a s 1138) (ps_a s 1139)) (hC5 : (ps_a s 1135 (Int32.toNatClampNeg (ps_i s 1131 22))).toInt = c5) (hC6 : (ps_a s 1136 (Int32.toNatClampNeg (ps_i s 1131 22))).toInt = c6) (hC7 : (ps_a s 1137 (Int32.toNatClampNeg (ps_i s 1131 22))).toInt = c7) (i5 : (ps_i s 1131 8).toInt ≤ (ps_i s 1131 4).toInt) (i6 : (ps_i s 1131 22).toInt = (ps_i s0 1131 22).toInt) (i7 : (ps_i s 1131 5).toInt = 0) (i8 : (x1.toInt ≠ 0 ∧ x2.toInt = 0 ∧ c5 < 6) ∨ (x1.toInt = 0 ∧ x2.toInt = 0 ∧ c6 < 4) ∨ (x1.toInt = 0 ∧ x2.toInt ≠ 0 ∧ c7 < 8)) : ps_At (d + 6) 204 82 [(0, .ref 1131), (1, .int x1), (2, .int x2)] [] s Q := by
  have r1 := mf_8 J
  have r2 := mf_4 J
  have r3 := mf_22 J
  have r4 := mf_5 J
  refine pg_204_82 (d := d + 5) ?_
  have r5 := mf_7 J
  refine ms_191 J (show 1 ≤ (3 : Int) from by omega) (show (3 : Int) ≤ 6 from by omega) (fun s6 J6 K6 p6_0 => ?_)
  have K7 := kpt K K6 rfl rfl
  have KC := K6
  have hT : TH σ (ps_a s6 1134) (ps_a s6 1135) (ps_a s6 1136) (ps_a s6 1137) (ps_a s6 1138) (ps_a s6 1139) (ps_i s6 1131 22).toInt := by rw [show ps_a s6 1134 = ps_a s 1134 from (K6.2 1134 rfl).1, show ps_a s6 1135 = ps_a s 1135 from (K6.2 1135 rfl).1, show ps_a s6 1136 = ps_a s 1136 from (K6.2 1136 rfl).1, show ps_a s6 1137 = ps_a s 1137 from (K6.2 1137 rfl).1, show ps_a s6 1138 = ps_a s 1138 from (K6.2 1138 rfl).1, show ps_a s6 1139 = ps_a s 1139 from (K6.2 1139 rfl).1, show ps_i s6 1131 22 = ps_i s 1131 22 from kp_i K6 22 rfl]; exact hT
  have hK : KB (ps_i s6 1131 22).toInt (ps_a s0 1134) (ps_a s0 1135) (ps_a s0 1136) (ps_a s0 1137) (ps_a s0 1138) (ps_a s0 1139) (ps_a s6 1134) (ps_a s6 1135) (ps_a s6 1136) (ps_a s6 1137) (ps_a s6 1138) (ps_a s6 1139) := by rw [show ps_a s6 1134 = ps_a s 1134 from (K6.2 1134 rfl).1, show ps_a s6 1135 = ps_a s 1135 from (K6.2 1135 rfl).1, show ps_a s6 1136 = ps_a s 1136 from (K6.2 1136 rfl).1, show ps_a s6 1137 = ps_a s 1137 from (K6.2 1137 rfl).1, show ps_a s6 1138 = ps_a s 1138 from (K6.2 1138 rfl).1, show ps_a s6 1139 = ps_a s 1139 from (K6.2 1139 rfl).1, show ps_i s6 1131 22 = ps_i s 1131 22 from kp_i K6 22 rfl]; exact hK
  have hC5 : (ps_a s6 1135 (Int32.toNatClampNeg (ps_i s6 1131 22))).toInt = c5 := by rw [show ps_a s6 1135 = ps_a s 1135 from (K6.2 1135 rfl).1, show ps_i s6 1131 22 = ps_i s 1131 22 from kp_i K6 22 rfl]; exact hC5
  have hC6 : (ps_a s6 1136 (Int32.toNatClampNeg (ps_i s6 1131 22))).toInt = c6 := by rw [show ps_a s6 1136 = ps_a s 1136 from (K6.2 1136 rfl).1, show ps_i s6 1131 22 = ps_i s 1131 22 from kp_i K6 22 rfl]; exact hC6
  have hC7 : (ps_a s6 1137 (Int32.toNatClampNeg (ps_i s6 1131 22))).toInt = c7 := by rw [show ps_a s6 1137 = ps_a s 1137 from (K6.2 1137 rfl).1, show ps_i s6 1131 22 = ps_i s 1131 22 from kp_i K6 22 rfl]; exact hC7
  have p6_0' : 1 ≤ (ps_i s6 1131 5).toInt := p6_0
  have r8 := mf_5 J6
  have r9 := mf_8 J6
  have u10 : (ps_i s6 1131 8).toInt = (ps_i s 1131 8).toInt := xeq (kp_i K6 8 rfl)
  have r11 := mf_4 J6
  have u12 : (ps_i s6 1131 4).toInt = (ps_i s 1131 4).toInt := xeq (kp_i K6 4 rfl)
  have r13 := mf_22 J6
  have u14 : (ps_i s6 1131 22).toInt = (ps_i s 1131 22).toInt := xeq (kp_i K6 22 rfl)
  exact ms_204_91 (σ := σ) (c5 := c5) (c6 := c6) (c7 := c7) k  x1 x2 _ J6 K7 hT hK hC5 hC6 hC7 (show (ps_i s6 1131 8).toInt ≤ (ps_i s6 1131 4).toInt from by omega) (show (ps_i s6 1131 22).toInt = (ps_i s0 1131 22).toInt from by omega) (show 1 ≤ (ps_i s6 1131 5).toInt ∨ (x1.toInt ≠ 0 ∧ x2.toInt = 0 ∧ c5 < 6) ∨ (x1.toInt = 0 ∧ x2.toInt = 0 ∧ c6 < 4) ∨ (x1.toInt = 0 ∧ x2.toInt ≠ 0 ∧ c7 < 8) from by omega)

theorem ms_204_27 {x : Nat → Nat → Nat} {t : Int32} {d : Nat} {s0 : ps_S} {σ : mSig} {c5 c6 c7 : Int} {Q : Option Value → ps_S → Prop} (k : ∀ (s' : ps_S), mJ x t s' → kp [1134, 1135, 1136, 1137, 1138, 1139, 1140, 1141, 1142, 1143, 1144, 1145, 1146, 1147, 1148] [5, 6, 7, 8, 9, 10, 11, 23, 29, 30, 31, 32] s0 s' → ((ps_i s' 1131 8).toInt ≤ (ps_i s' 1131 4).toInt) → (1 ≤ (ps_i s' 1131 5).toInt ∨ ∃ τ, TH τ (ps_a s' 1134) (ps_a s' 1135) (ps_a s' 1136) (ps_a s' 1137) (ps_a s' 1138) (ps_a s' 1139) (ps_i s' 1131 22).toInt) → (KB (ps_i s' 1131 22).toInt (ps_a s0 1134) (ps_a s0 1135) (ps_a s0 1136) (ps_a s0 1137) (ps_a s0 1138) (ps_a s0 1139) (ps_a s' 1134) (ps_a s' 1135) (ps_a s' 1136) (ps_a s' 1137) (ps_a s' 1138) (ps_a s' 1139)) → (1 ≤ (ps_i s' 1131 5).toInt ∨ (ps_a s' 1135 (Int32.toNatClampNeg (ps_i s' 1131 22))).toInt + (ps_a s' 1136 (Int32.toNatClampNeg (ps_i s' 1131 22))).toInt + (ps_a s' 1137 (Int32.toNatClampNeg (ps_i s' 1131 22))).toInt = c5 + c6 + c7 + 1) → (c5 + c6 + c7 ≤ (ps_a s' 1135 (Int32.toNatClampNeg (ps_i s' 1131 22))).toInt + (ps_a s' 1136 (Int32.toNatClampNeg (ps_i s' 1131 22))).toInt + (ps_a s' 1137 (Int32.toNatClampNeg (ps_i s' 1131 22))).toInt) → Q none s') (x1 : Int32) (x2 : Int32) (s : ps_S) (J : mJ x t s) (K : kp [1134, 1135, 1136, 1137, 1138, 1139, 1140, 1141, 1142, 1143, 1144, 1145, 1146, 1147, 1148] [5, 6, 7, 8, 9, 10, 11, 23, 29, 30, 31, 32] s0 s) (hT : TH σ (ps_a s 1134) (ps_a s 1135) (ps_a s 1136) (ps_a s 1137) (ps_a s 1138) (ps_a s 1139) (ps_i s 1131 22).toInt) (hK : KB (ps_i s 1131 22).toInt (ps_a s0 1134) (ps_a s0 1135) (ps_a s0 1136) (ps_a s0 1137) (ps_a s0 1138) (ps_a s0 1139) (ps_a s 1134) (ps_a s 1135) (ps_a s 1136) (ps_a s 1137) (ps_a s 1138) (ps_a s 1139)) (hC5 : (ps_a s 1135 (Int32.toNatClampNeg (ps_i s 1131 22))).toInt = c5) (hC6 : (ps_a s 1136 (Int32.toNatClampNeg (ps_i s 1131 22))).toInt = c6) (hC7 : (ps_a s 1137 (Int32.toNatClampNeg (ps_i s 1131 22))).toInt = c7) (i5 : (ps_i s 1131 8).toInt ≤ (ps_i s 1131 4).toInt) (i6 : (ps_i s 1131 22).toInt = (ps_i s0 1131 22).toInt) (i7 : 1 ≤ (ps_i s 1131 5).toInt ∨ (x1.toInt ≠ 0 ∧ x2.toInt = 0 ∧ c5 < 6) ∨ (x1.toInt = 0 ∧ x2.toInt = 0 ∧ c6 < 4) ∨ (x1.toInt = 0 ∧ x2.toInt ≠ 0 ∧ c7 < 8)) : ps_At (d + 6) 204 27 [(0, .ref 1131), (1, .int x1), (2, .int x2)] [] s Q := by
  have r1 := mf_8 J
  have r2 := mf_4 J
  have r3 := mf_22 J
  have r4 := mf_5 J
  refine pg_204_27 (d := d + 5) ?_
  refine ms_192 J  (fun v5 p5_0 b5 => ?_)
  have p5_0' : (v5.toInt = 0 ∧ 1 ≤ (ps_i s 1131 5).toInt) ∨ (v5.toInt = 1 ∧ (ps_i s 1131 5).toInt = 0) := p5_0
  refine And.intro (fun h6 => ?_) (fun h6 => ?_)
  · have f7 : v5.toInt ≠ (0 : Int) := xne h6
    have qz7 : (ps_i s 1131 5).toInt = 0 := by omega
    clear p5_0' p5_0
    refine ms_194 J (show (ps_i s 1131 8).toInt ≤ (ps_i s 1131 4).toInt from by omega) (fun s8 J8 K8 p8_0 => ?_)
    have K9 := kpt K K8 rfl rfl
    have KC := K8
    have hT : TH σ (ps_a s8 1134) (ps_a s8 1135) (ps_a s8 1136) (ps_a s8 1137) (ps_a s8 1138) (ps_a s8 1139) (ps_i s8 1131 22).toInt := by rw [show ps_a s8 1134 = ps_a s 1134 from (K8.2 1134 rfl).1, show ps_a s8 1135 = ps_a s 1135 from (K8.2 1135 rfl).1, show ps_a s8 1136 = ps_a s 1136 from (K8.2 1136 rfl).1, show ps_a s8 1137 = ps_a s 1137 from (K8.2 1137 rfl).1, show ps_a s8 1138 = ps_a s 1138 from (K8.2 1138 rfl).1, show ps_a s8 1139 = ps_a s 1139 from (K8.2 1139 rfl).1, show ps_i s8 1131 22 = ps_i s 1131 22 from kp_i K8 22 rfl]; exact hT
    have hK : KB (ps_i s8 1131 22).toInt (ps_a s0 1134) (ps_a s0 1135) (ps_a s0 1136) (ps_a s0 1137) (ps_a s0 1138) (ps_a s0 1139) (ps_a s8 1134) (ps_a s8 1135) (ps_a s8 1136) (ps_a s8 1137) (ps_a s8 1138) (ps_a s8 1139) := by rw [show ps_a s8 1134 = ps_a s 1134 from (K8.2 1134 rfl).1, show ps_a s8 1135 = ps_a s 1135 from (K8.2 1135 rfl).1, show ps_a s8 1136 = ps_a s 1136 from (K8.2 1136 rfl).1, show ps_a s8 1137 = ps_a s 1137 from (K8.2 1137 rfl).1, show ps_a s8 1138 = ps_a s 1138 from (K8.2 1138 rfl).1, show ps_a s8 1139 = ps_a s 1139 from (K8.2 1139 rfl).1, show ps_i s8 1131 22 = ps_i s 1131 22 from kp_i K8 22 rfl]; exact hK
    have hC5 : (ps_a s8 1135 (Int32.toNatClampNeg (ps_i s8 1131 22))).toInt = c5 := by rw [show ps_a s8 1135 = ps_a s 1135 from (K8.2 1135 rfl).1, show ps_i s8 1131 22 = ps_i s 1131 22 from kp_i K8 22 rfl]; exact hC5
    have hC6 : (ps_a s8 1136 (Int32.toNatClampNeg (ps_i s8 1131 22))).toInt = c6 := by rw [show ps_a s8 1136 = ps_a s 1136 from (K8.2 1136 rfl).1, show ps_i s8 1131 22 = ps_i s 1131 22 from kp_i K8 22 rfl]; exact hC6
    have hC7 : (ps_a s8 1137 (Int32.toNatClampNeg (ps_i s8 1131 22))).toInt = c7 := by rw [show ps_a s8 1137 = ps_a s 1137 from (K8.2 1137 rfl).1, show ps_i s8 1131 22 = ps_i s 1131 22 from kp_i K8 22 rfl]; exact hC7
    have p8_0' : (ps_i s8 1131 8).toInt ≤ (ps_i s8 1131 4).toInt := p8_0
    have r10 := mf_8 J8
    have r11 := mf_4 J8
    have u12 : (ps_i s8 1131 4).toInt = (ps_i s 1131 4).toInt := xeq (kp_i K8 4 rfl)
    have r13 := mf_9 J8
    refine And.intro (fun h14 => ?_) (fun h14 => ?_)
    · have f15 : (ps_i s8 1131 9).toInt = (2 : Int) := xeq h14
      refine And.intro (fun h16 => ?_) (fun h16 => ?_)
      · have f17 : x2.toInt = (0 : Int) := xeq h16
        refine ms_206 J8  (fun v18 p18_0 p18_1 => ?_)
        have p18_0' : -1 ≤ v18.toInt := p18_0
        have p18_1' : v18.toInt < (ps_a s8 1135 (Int32.toNatClampNeg (ps_i s8 1131 22))).toInt := p18_1
        have r19 := mf_22 J8
        have u20 : (ps_i s8 1131 22).toInt = (ps_i s 1131 22).toInt := xeq (kp_i K8 22 rfl)
        have r21 : 0 ≤ (ps_a s8 1135 (Int32.toNatClampNeg (ps_i s8 1131 22))).toInt ∧ (ps_a s8 1135 (Int32.toNatClampNeg (ps_i s8 1131 22))).toInt ≤ 6 := ma_1135 (i := (ps_i s8 1131 22)) J8 (show 0 ≤ (ps_i s8 1131 22).toInt from by omega) (show (ps_i s8 1131 22).toInt < 2 from by omega)
        have u22 : (ps_a s8 1135 (Int32.toNatClampNeg (ps_i s8 1131 22))).toInt = (ps_a s 1135 (Int32.toNatClampNeg (ps_i s8 1131 22))).toInt := xeq (kp_a K8 1135 rfl _)
        have r23 : 0 ≤ (ps_a s 1135 (Int32.toNatClampNeg (ps_i s8 1131 22))).toInt ∧ (ps_a s 1135 (Int32.toNatClampNeg (ps_i s8 1131 22))).toInt ≤ 6 := ma_1135 (i := (ps_i s8 1131 22)) J (show 0 ≤ (ps_i s8 1131 22).toInt from by omega) (show (ps_i s8 1131 22).toInt < 2 from by omega)
        refine And.intro (fun h24 => ?_) (fun h24 => ?_)
        · have f25 : (0 : Int) ≤ v18.toInt := xle h24
          have r26 := mf_5 J8
          have u27 : (ps_i s8 1131 5).toInt = (ps_i s 1131 5).toInt := xeq (kp_i K8 5 rfl)
          exact ms_204_82 (σ := σ) (c5 := c5) (c6 := c6) (c7 := c7) k  x1 x2 _ J8 K9 hT hK hC5 hC6 hC7 (show (ps_i s8 1131 8).toInt ≤ (ps_i s8 1131 4).toInt from by omega) (show (ps_i s8 1131 22).toInt = (ps_i s0 1131 22).toInt from by omega) (show (ps_i s8 1131 5).toInt = 0 from by omega) (show (x1.toInt ≠ 0 ∧ x2.toInt = 0 ∧ c5 < 6) ∨ (x1.toInt = 0 ∧ x2.toInt = 0 ∧ c6 < 4) ∨ (x1.toInt = 0 ∧ x2.toInt ≠ 0 ∧ c7 < 8) from by omega)
        · have f28 : v18.toInt < (0 : Int) := xlt h24
          refine ms_207 J8  (fun v29 p29_0 p29_1 => ?_)
          have p29_0' : -1 ≤ v29.toInt := p29_0
          have p29_1' : v29.toInt < (ps_a s8 1136 (Int32.toNatClampNeg (ps_i s8 1131 22))).toInt := p29_1
          have r30 : 0 ≤ (ps_a s8 1136 (Int32.toNatClampNeg (ps_i s8 1131 22))).toInt ∧ (ps_a s8 1136 (Int32.toNatClampNeg (ps_i s8 1131 22))).toInt ≤ 4 := ma_1136 (i := (ps_i s8 1131 22)) J8 (show 0 ≤ (ps_i s8 1131 22).toInt from by omega) (show (ps_i s8 1131 22).toInt < 2 from by omega)
          have u31 : (ps_a s8 1136 (Int32.toNatClampNeg (ps_i s8 1131 22))).toInt = (ps_a s 1136 (Int32.toNatClampNeg (ps_i s8 1131 22))).toInt := xeq (kp_a K8 1136 rfl _)
          have r32 : 0 ≤ (ps_a s 1136 (Int32.toNatClampNeg (ps_i s8 1131 22))).toInt ∧ (ps_a s 1136 (Int32.toNatClampNeg (ps_i s8 1131 22))).toInt ≤ 4 := ma_1136 (i := (ps_i s8 1131 22)) J (show 0 ≤ (ps_i s8 1131 22).toInt from by omega) (show (ps_i s8 1131 22).toInt < 2 from by omega)
          refine And.intro (fun h33 => ?_) (fun h33 => ?_)
          · have f34 : v29.toInt < (0 : Int) := xlt h33
            have r35 := mf_5 J8
            have u36 : (ps_i s8 1131 5).toInt = (ps_i s 1131 5).toInt := xeq (kp_i K8 5 rfl)
            exact ms_204_91 (σ := σ) (c5 := c5) (c6 := c6) (c7 := c7) k  x1 x2 _ J8 K9 hT hK hC5 hC6 hC7 (show (ps_i s8 1131 8).toInt ≤ (ps_i s8 1131 4).toInt from by omega) (show (ps_i s8 1131 22).toInt = (ps_i s0 1131 22).toInt from by omega) (show 1 ≤ (ps_i s8 1131 5).toInt ∨ (x1.toInt ≠ 0 ∧ x2.toInt = 0 ∧ c5 < 6) ∨ (x1.toInt = 0 ∧ x2.toInt = 0 ∧ c6 < 4) ∨ (x1.toInt = 0 ∧ x2.toInt ≠ 0 ∧ c7 < 8) from by omega)
          · have f37 : (0 : Int) ≤ v29.toInt := xle h33
            have r38 := mf_5 J8
            have u39 : (ps_i s8 1131 5).toInt = (ps_i s 1131 5).toInt := xeq (kp_i K8 5 rfl)
            exact ms_204_82 (σ := σ) (c5 := c5) (c6 := c6) (c7 := c7) k  x1 x2 _ J8 K9 hT hK hC5 hC6 hC7 (show (ps_i s8 1131 8).toInt ≤ (ps_i s8 1131 4).toInt from by omega) (show (ps_i s8 1131 22).toInt = (ps_i s0 1131 22).toInt from by omega) (show (ps_i s8 1131 5).toInt = 0 from by omega) (show (x1.toInt ≠ 0 ∧ x2.toInt = 0 ∧ c5 < 6) ∨ (x1.toInt = 0 ∧ x2.toInt = 0 ∧ c6 < 4) ∨ (x1.toInt = 0 ∧ x2.toInt ≠ 0 ∧ c7 < 8) from by omega)
      · have f40 : x2.toInt ≠ (0 : Int) := xne h16
        refine ms_205 J8  (fun v41 p41_0 p41_1 => ?_)
        have p41_0' : -1 ≤ v41.toInt := p41_0
        have p41_1' : v41.toInt < (ps_a s8 1137 (Int32.toNatClampNeg (ps_i s8 1131 22))).toInt := p41_1
        have r42 := mf_22 J8
        have u43 : (ps_i s8 1131 22).toInt = (ps_i s 1131 22).toInt := xeq (kp_i K8 22 rfl)
        have r44 : 0 ≤ (ps_a s8 1137 (Int32.toNatClampNeg (ps_i s8 1131 22))).toInt ∧ (ps_a s8 1137 (Int32.toNatClampNeg (ps_i s8 1131 22))).toInt ≤ 8 := ma_1137 (i := (ps_i s8 1131 22)) J8 (show 0 ≤ (ps_i s8 1131 22).toInt from by omega) (show (ps_i s8 1131 22).toInt < 2 from by omega)
        have u45 : (ps_a s8 1137 (Int32.toNatClampNeg (ps_i s8 1131 22))).toInt = (ps_a s 1137 (Int32.toNatClampNeg (ps_i s8 1131 22))).toInt := xeq (kp_a K8 1137 rfl _)
        have r46 : 0 ≤ (ps_a s 1137 (Int32.toNatClampNeg (ps_i s8 1131 22))).toInt ∧ (ps_a s 1137 (Int32.toNatClampNeg (ps_i s8 1131 22))).toInt ≤ 8 := ma_1137 (i := (ps_i s8 1131 22)) J (show 0 ≤ (ps_i s8 1131 22).toInt from by omega) (show (ps_i s8 1131 22).toInt < 2 from by omega)
        refine And.intro (fun h47 => ?_) (fun h47 => ?_)
        · have f48 : v41.toInt < (0 : Int) := xlt h47
          have r49 := mf_5 J8
          have u50 : (ps_i s8 1131 5).toInt = (ps_i s 1131 5).toInt := xeq (kp_i K8 5 rfl)
          exact ms_204_91 (σ := σ) (c5 := c5) (c6 := c6) (c7 := c7) k  x1 x2 _ J8 K9 hT hK hC5 hC6 hC7 (show (ps_i s8 1131 8).toInt ≤ (ps_i s8 1131 4).toInt from by omega) (show (ps_i s8 1131 22).toInt = (ps_i s0 1131 22).toInt from by omega) (show 1 ≤ (ps_i s8 1131 5).toInt ∨ (x1.toInt ≠ 0 ∧ x2.toInt = 0 ∧ c5 < 6) ∨ (x1.toInt = 0 ∧ x2.toInt = 0 ∧ c6 < 4) ∨ (x1.toInt = 0 ∧ x2.toInt ≠ 0 ∧ c7 < 8) from by omega)
        · have f51 : (0 : Int) ≤ v41.toInt := xle h47
          have r52 := mf_5 J8
          have u53 : (ps_i s8 1131 5).toInt = (ps_i s 1131 5).toInt := xeq (kp_i K8 5 rfl)
          exact ms_204_82 (σ := σ) (c5 := c5) (c6 := c6) (c7 := c7) k  x1 x2 _ J8 K9 hT hK hC5 hC6 hC7 (show (ps_i s8 1131 8).toInt ≤ (ps_i s8 1131 4).toInt from by omega) (show (ps_i s8 1131 22).toInt = (ps_i s0 1131 22).toInt from by omega) (show (ps_i s8 1131 5).toInt = 0 from by omega) (show (x1.toInt ≠ 0 ∧ x2.toInt = 0 ∧ c5 < 6) ∨ (x1.toInt = 0 ∧ x2.toInt = 0 ∧ c6 < 4) ∨ (x1.toInt = 0 ∧ x2.toInt ≠ 0 ∧ c7 < 8) from by omega)
    · have f54 : (ps_i s8 1131 9).toInt ≠ (2 : Int) := xne h14
      refine ms_196 J8  (fun s55 J55 K55 p55_0 => ?_)
      have K56 := kpt K9 K55 rfl rfl
      have KC := K55
      have hT : TH σ (ps_a s55 1134) (ps_a s55 1135) (ps_a s55 1136) (ps_a s55 1137) (ps_a s55 1138) (ps_a s55 1139) (ps_i s55 1131 22).toInt := by rw [show ps_a s55 1134 = ps_a s8 1134 from (K55.2 1134 rfl).1, show ps_a s55 1135 = ps_a s8 1135 from (K55.2 1135 rfl).1, show ps_a s55 1136 = ps_a s8 1136 from (K55.2 1136 rfl).1, show ps_a s55 1137 = ps_a s8 1137 from (K55.2 1137 rfl).1, show ps_a s55 1138 = ps_a s8 1138 from (K55.2 1138 rfl).1, show ps_a s55 1139 = ps_a s8 1139 from (K55.2 1139 rfl).1, show ps_i s55 1131 22 = ps_i s8 1131 22 from kp_i K55 22 rfl]; exact hT
      have hK : KB (ps_i s55 1131 22).toInt (ps_a s0 1134) (ps_a s0 1135) (ps_a s0 1136) (ps_a s0 1137) (ps_a s0 1138) (ps_a s0 1139) (ps_a s55 1134) (ps_a s55 1135) (ps_a s55 1136) (ps_a s55 1137) (ps_a s55 1138) (ps_a s55 1139) := by rw [show ps_a s55 1134 = ps_a s8 1134 from (K55.2 1134 rfl).1, show ps_a s55 1135 = ps_a s8 1135 from (K55.2 1135 rfl).1, show ps_a s55 1136 = ps_a s8 1136 from (K55.2 1136 rfl).1, show ps_a s55 1137 = ps_a s8 1137 from (K55.2 1137 rfl).1, show ps_a s55 1138 = ps_a s8 1138 from (K55.2 1138 rfl).1, show ps_a s55 1139 = ps_a s8 1139 from (K55.2 1139 rfl).1, show ps_i s55 1131 22 = ps_i s8 1131 22 from kp_i K55 22 rfl]; exact hK
      have hC5 : (ps_a s55 1135 (Int32.toNatClampNeg (ps_i s55 1131 22))).toInt = c5 := by rw [show ps_a s55 1135 = ps_a s8 1135 from (K55.2 1135 rfl).1, show ps_i s55 1131 22 = ps_i s8 1131 22 from kp_i K55 22 rfl]; exact hC5
      have hC6 : (ps_a s55 1136 (Int32.toNatClampNeg (ps_i s55 1131 22))).toInt = c6 := by rw [show ps_a s55 1136 = ps_a s8 1136 from (K55.2 1136 rfl).1, show ps_i s55 1131 22 = ps_i s8 1131 22 from kp_i K55 22 rfl]; exact hC6
      have hC7 : (ps_a s55 1137 (Int32.toNatClampNeg (ps_i s55 1131 22))).toInt = c7 := by rw [show ps_a s55 1137 = ps_a s8 1137 from (K55.2 1137 rfl).1, show ps_i s55 1131 22 = ps_i s8 1131 22 from kp_i K55 22 rfl]; exact hC7
      have p55_0' : 1 ≤ (ps_i s55 1131 5).toInt := p55_0
      have r57 := mf_5 J55
      have r58 := mf_8 J55
      have u59 : (ps_i s55 1131 8).toInt = (ps_i s8 1131 8).toInt := xeq (kp_i K55 8 rfl)
      have r60 := mf_4 J55
      have u61 : (ps_i s55 1131 4).toInt = (ps_i s8 1131 4).toInt := xeq (kp_i K55 4 rfl)
      have r62 := mf_22 J55
      have u63 : (ps_i s55 1131 22).toInt = (ps_i s8 1131 22).toInt := xeq (kp_i K55 22 rfl)
      have r64 := mf_22 J8
      have u65 : (ps_i s8 1131 22).toInt = (ps_i s 1131 22).toInt := xeq (kp_i K8 22 rfl)
      exact ms_204_91 (σ := σ) (c5 := c5) (c6 := c6) (c7 := c7) k  x1 x2 _ J55 K56 hT hK hC5 hC6 hC7 (show (ps_i s55 1131 8).toInt ≤ (ps_i s55 1131 4).toInt from by omega) (show (ps_i s55 1131 22).toInt = (ps_i s0 1131 22).toInt from by omega) (show 1 ≤ (ps_i s55 1131 5).toInt ∨ (x1.toInt ≠ 0 ∧ x2.toInt = 0 ∧ c5 < 6) ∨ (x1.toInt = 0 ∧ x2.toInt = 0 ∧ c6 < 4) ∨ (x1.toInt = 0 ∧ x2.toInt ≠ 0 ∧ c7 < 8) from by omega)
  · have f66 : v5.toInt = (0 : Int) := xeq h6
    have qz66 : 1 ≤ (ps_i s 1131 5).toInt := by omega
    clear p5_0' p5_0
    exact k _ J K (show (ps_i s 1131 8).toInt ≤ (ps_i s 1131 4).toInt from by omega) (Or.inl (show 1 ≤ (ps_i s 1131 5).toInt from by omega)) (hK) (Or.inl (show 1 ≤ (ps_i s 1131 5).toInt from by omega)) ((by omega))

theorem ms_204 {x : Nat → Nat → Nat} {t : Int32} {s : ps_S} {d : Nat} {f : ps_S → Prop} (J : mJ x t s) {σ : mSig} {c5 c6 c7 : Int} (hT : TH σ (ps_a s 1134) (ps_a s 1135) (ps_a s 1136) (ps_a s 1137) (ps_a s 1138) (ps_a s 1139) (ps_i s 1131 22).toInt) (hC5 : (ps_a s 1135 (Int32.toNatClampNeg (ps_i s 1131 22))).toInt = c5) (hC6 : (ps_a s 1136 (Int32.toNatClampNeg (ps_i s 1131 22))).toInt = c6) (hC7 : (ps_a s 1137 (Int32.toNatClampNeg (ps_i s 1131 22))).toInt = c7) (q4 : (ps_i s 1131 8).toInt ≤ (ps_i s 1131 4).toInt) (q5 : (ps_i s 1131 5).toInt = 0) (k : ∀ (s' : ps_S), mJ x t s' → kp [1134, 1135, 1136, 1137, 1138, 1139, 1140, 1141, 1142, 1143, 1144, 1145, 1146, 1147, 1148] [5, 6, 7, 8, 9, 10, 11, 23, 29, 30, 31, 32] s s' → ((ps_i s' 1131 8).toInt ≤ (ps_i s' 1131 4).toInt) → (1 ≤ (ps_i s' 1131 5).toInt ∨ ∃ τ, TH τ (ps_a s' 1134) (ps_a s' 1135) (ps_a s' 1136) (ps_a s' 1137) (ps_a s' 1138) (ps_a s' 1139) (ps_i s' 1131 22).toInt) → (KB (ps_i s' 1131 22).toInt (ps_a s 1134) (ps_a s 1135) (ps_a s 1136) (ps_a s 1137) (ps_a s 1138) (ps_a s 1139) (ps_a s' 1134) (ps_a s' 1135) (ps_a s' 1136) (ps_a s' 1137) (ps_a s' 1138) (ps_a s' 1139)) → (1 ≤ (ps_i s' 1131 5).toInt ∨ (ps_a s' 1135 (Int32.toNatClampNeg (ps_i s' 1131 22))).toInt + (ps_a s' 1136 (Int32.toNatClampNeg (ps_i s' 1131 22))).toInt + (ps_a s' 1137 (Int32.toNatClampNeg (ps_i s' 1131 22))).toInt = c5 + c6 + c7 + 1) → (c5 + c6 + c7 ≤ (ps_a s' 1135 (Int32.toNatClampNeg (ps_i s' 1131 22))).toInt + (ps_a s' 1136 (Int32.toNatClampNeg (ps_i s' 1131 22))).toInt + (ps_a s' 1137 (Int32.toNatClampNeg (ps_i s' 1131 22))).toInt) → f s') : ps_Cl (d + 6) 204 [.ref 1131] s (ps_rV f) := by
  have r1 := mf_8 J
  have r2 := mf_4 J
  have r3 := mf_5 J
  have K : kp [1134, 1135, 1136, 1137, 1138, 1139, 1140, 1141, 1142, 1143, 1144, 1145, 1146, 1147, 1148] [5, 6, 7, 8, 9, 10, 11, 23, 29, 30, 31, 32] s s := kp_refl
  refine pg_204_0 (d := d + 5) ?_
  have hK : KB (ps_i s 1131 22).toInt (ps_a s 1134) (ps_a s 1135) (ps_a s 1136) (ps_a s 1137) (ps_a s 1138) (ps_a s 1139) (ps_a s 1134) (ps_a s 1135) (ps_a s 1136) (ps_a s 1137) (ps_a s 1138) (ps_a s 1139) := KB_0
  refine mx_195 J  (fun v4 p4_0 p4_1 p4_2 p4_3 b4 => ?_)
  have p4_0' : 0 ≤ v4.toInt := p4_0
  have p4_1' : v4.toInt ≤ 1 := p4_1
  have w4a : _ := p4_2
  have w4 : _ := p4_3
  refine mx_195 J  (fun v5 p5_0 p5_1 p5_2 p5_3 b5 => ?_)
  have p5_0' : 0 ≤ v5.toInt := p5_0
  have p5_1' : v5.toInt ≤ 1 := p5_1
  have w12 : _ := p5_2
  have w12b : _ := p5_3
  refine ms_203 J  (fun v6 p6_0 p6_1 p6_2 b6 => ?_)
  have p6_0' : 0 ≤ v6.toInt := p6_0
  have p6_1' : v6.toInt ≤ 1 := p6_1
  have hfull : _ := p6_2
  have b22 := mf_22 J
  have r1135 := ma_1135 (i := (ps_i s 1131 22)) J (by omega) (by omega)
  have r1136 := ma_1136 (i := (ps_i s 1131 22)) J (by omega) (by omega)
  have r1137 := ma_1137 (i := (ps_i s 1131 22)) J (by omega) (by omega)
  have hW : (v6).toInt = 1 ∨ (v4.toInt ≠ 0 ∧ v5.toInt = 0 ∧ c5 < 6) ∨ (v4.toInt = 0 ∧ v5.toInt = 0 ∧ c6 < 4) ∨ (v4.toInt = 0 ∧ v5.toInt ≠ 0 ∧ c7 < 8) := by
      by_cases q : (v6).toInt = 0
      · right; rcases hfull q with ⟨⟨z1, z2⟩, z3⟩ | ⟨⟨z1, z2⟩, z3⟩ | ⟨⟨z1, z2⟩, z3⟩
        · have q2 : v5.toInt = 0 := by rcases w12 with w | w; exact w; exact absurd (lgx z2 w.2) (by decide)
          exact Or.inl ⟨by omega, q2, by omega⟩
        · have q2 : v5.toInt = 0 := by rcases w12 with w | w; exact w; exact absurd (lgx z2 w.2) (by decide)
          have q1 : v4.toInt = 0 := by rcases w4a with w | w; exact w; exact absurd (lgx z2 w.2) (by decide)
          exact Or.inr (Or.inl ⟨q1, q2, by omega⟩)
        · have q1 : v4.toInt = 0 := by rcases w4a with w | w; exact w; exact absurd (lgx z2 w.2) (by decide)
          exact Or.inr (Or.inr ⟨q1, by omega, by omega⟩)
      · left; omega
  refine And.intro (fun h7 => ?_) (fun h7 => ?_)
  · have f8 : v6.toInt = (0 : Int) := xeq h7
    have r9 := mf_22 J
    exact ms_204_27 (σ := σ) (c5 := c5) (c6 := c6) (c7 := c7) k  v4 v5 _ J K hT hK hC5 hC6 hC7 (show (ps_i s 1131 8).toInt ≤ (ps_i s 1131 4).toInt from by omega) (show (ps_i s 1131 22).toInt = (ps_i s 1131 22).toInt from by omega) (show 1 ≤ (ps_i s 1131 5).toInt ∨ (v4.toInt ≠ 0 ∧ v5.toInt = 0 ∧ c5 < 6) ∨ (v4.toInt = 0 ∧ v5.toInt = 0 ∧ c6 < 4) ∨ (v4.toInt = 0 ∧ v5.toInt ≠ 0 ∧ c7 < 8) from by omega)
  · have f10 : v6.toInt ≠ (0 : Int) := xne h7
    refine ms_196 J  (fun s11 J11 K11 p11_0 => ?_)
    have K12 := kpt K K11 rfl rfl
    have KC := K11
    have hT : TH σ (ps_a s11 1134) (ps_a s11 1135) (ps_a s11 1136) (ps_a s11 1137) (ps_a s11 1138) (ps_a s11 1139) (ps_i s11 1131 22).toInt := by rw [show ps_a s11 1134 = ps_a s 1134 from (K11.2 1134 rfl).1, show ps_a s11 1135 = ps_a s 1135 from (K11.2 1135 rfl).1, show ps_a s11 1136 = ps_a s 1136 from (K11.2 1136 rfl).1, show ps_a s11 1137 = ps_a s 1137 from (K11.2 1137 rfl).1, show ps_a s11 1138 = ps_a s 1138 from (K11.2 1138 rfl).1, show ps_a s11 1139 = ps_a s 1139 from (K11.2 1139 rfl).1, show ps_i s11 1131 22 = ps_i s 1131 22 from kp_i K11 22 rfl]; exact hT
    have hC5 : (ps_a s11 1135 (Int32.toNatClampNeg (ps_i s11 1131 22))).toInt = c5 := by rw [show ps_a s11 1135 = ps_a s 1135 from (K11.2 1135 rfl).1, show ps_i s11 1131 22 = ps_i s 1131 22 from kp_i K11 22 rfl]; exact hC5
    have hC6 : (ps_a s11 1136 (Int32.toNatClampNeg (ps_i s11 1131 22))).toInt = c6 := by rw [show ps_a s11 1136 = ps_a s 1136 from (K11.2 1136 rfl).1, show ps_i s11 1131 22 = ps_i s 1131 22 from kp_i K11 22 rfl]; exact hC6
    have hC7 : (ps_a s11 1137 (Int32.toNatClampNeg (ps_i s11 1131 22))).toInt = c7 := by rw [show ps_a s11 1137 = ps_a s 1137 from (K11.2 1137 rfl).1, show ps_i s11 1131 22 = ps_i s 1131 22 from kp_i K11 22 rfl]; exact hC7
    have hK : KB (ps_i s11 1131 22).toInt (ps_a s 1134) (ps_a s 1135) (ps_a s 1136) (ps_a s 1137) (ps_a s 1138) (ps_a s 1139) (ps_a s11 1134) (ps_a s11 1135) (ps_a s11 1136) (ps_a s11 1137) (ps_a s11 1138) (ps_a s11 1139) := by rw [show ps_a s11 1134 = ps_a s 1134 from (K11.2 1134 rfl).1, show ps_a s11 1135 = ps_a s 1135 from (K11.2 1135 rfl).1, show ps_a s11 1136 = ps_a s 1136 from (K11.2 1136 rfl).1, show ps_a s11 1137 = ps_a s 1137 from (K11.2 1137 rfl).1, show ps_a s11 1138 = ps_a s 1138 from (K11.2 1138 rfl).1, show ps_a s11 1139 = ps_a s 1139 from (K11.2 1139 rfl).1, show ps_i s11 1131 22 = ps_i s 1131 22 from kp_i K11 22 rfl]; exact hK
    have p11_0' : 1 ≤ (ps_i s11 1131 5).toInt := p11_0
    have r13 := mf_5 J11
    have r14 := mf_8 J11
    have u15 : (ps_i s11 1131 8).toInt = (ps_i s 1131 8).toInt := xeq (kp_i K11 8 rfl)
    have r16 := mf_4 J11
    have u17 : (ps_i s11 1131 4).toInt = (ps_i s 1131 4).toInt := xeq (kp_i K11 4 rfl)
    have r18 := mf_22 J11
    have u19 : (ps_i s11 1131 22).toInt = (ps_i s 1131 22).toInt := xeq (kp_i K11 22 rfl)
    have r20 := mf_22 J
    exact ms_204_27 (σ := σ) (c5 := c5) (c6 := c6) (c7 := c7) k  v4 v5 _ J11 K12 hT hK hC5 hC6 hC7 (show (ps_i s11 1131 8).toInt ≤ (ps_i s11 1131 4).toInt from by omega) (show (ps_i s11 1131 22).toInt = (ps_i s 1131 22).toInt from by omega) (show 1 ≤ (ps_i s11 1131 5).toInt ∨ (v4.toInt ≠ 0 ∧ v5.toInt = 0 ∧ c5 < 6) ∨ (v4.toInt = 0 ∧ v5.toInt = 0 ∧ c6 < 4) ∨ (v4.toInt = 0 ∧ v5.toInt ≠ 0 ∧ c7 < 8) from by omega)
end
section
set_option maxRecDepth 100000
-- ProofBenchModel.begin()V
theorem pg_202_0 {d : Nat} {s : ps_S} {Q : Option Value → ps_S → Prop} (h :
  ps_nd (pm_in 25748 27400) (ps_nd (pm_in 25789 27400) (Q none (ps_ua (ps_ua (ps_ui (ps_ui (ps_ui (ps_ui s 1131 47 0) 1131 48 (-1)) 1131 49 (-1)) 1131 54 0) 1134 (Int32.toNatClampNeg (25748 : Int32)) 0) 1134 (Int32.toNatClampNeg (25789 : Int32)) 0)))) : ps_At d 202 0 [(0, .ref 1131)] [] s Q :=
  ps_wp_at (stops := []) (n := 25) h rfl

-- ProofBenchModel.theory()I
theorem pg_201_0 {d : Nat} {s : ps_S} {Q : Option Value → ps_S → Prop} (h :
  ps_Cl d 198 [.ref 1131] s (ps_rV (fun s1 =>
    ps_nd (pm_in (ps_i (ps_ui s1 1131 22 ((1 : Int32) - (ps_i s1 1131 21))) 1131 22) 2) (ps_nd (pm_in (ps_i (ps_ua (ps_ui s1 1131 22 ((1 : Int32) - (ps_i s1 1131 21))) 1135 (Int32.toNatClampNeg (ps_i (ps_ui s1 1131 22 ((1 : Int32) - (ps_i s1 1131 21))) 1131 22)) 0) 1131 22) 2) (ps_nd (pm_in (ps_i (ps_ua (ps_ua (ps_ui s1 1131 22 ((1 : Int32) - (ps_i s1 1131 21))) 1135 (Int32.toNatClampNeg (ps_i (ps_ui s1 1131 22 ((1 : Int32) - (ps_i s1 1131 21))) 1131 22)) 0) 1136 (Int32.toNatClampNeg (ps_i (ps_ua (ps_ui s1 1131 22 ((1 : Int32) - (ps_i s1 1131 21))) 1135 (Int32.toNatClampNeg (ps_i (ps_ui s1 1131 22 ((1 : Int32) - (ps_i s1 1131 21))) 1131 22)) 0) 1131 22)) 0) 1131 22) 2) (ps_At (d + 1) 201 44 [(0, .ref 1131)] [] (ps_ua (ps_ua (ps_ua (ps_ui s1 1131 22 ((1 : Int32) - (ps_i s1 1131 21))) 1135 (Int32.toNatClampNeg (ps_i (ps_ui s1 1131 22 ((1 : Int32) - (ps_i s1 1131 21))) 1131 22)) 0) 1136 (Int32.toNatClampNeg (ps_i (ps_ua (ps_ui s1 1131 22 ((1 : Int32) - (ps_i s1 1131 21))) 1135 (Int32.toNatClampNeg (ps_i (ps_ui s1 1131 22 ((1 : Int32) - (ps_i s1 1131 21))) 1131 22)) 0) 1131 22)) 0) 1137 (Int32.toNatClampNeg (ps_i (ps_ua (ps_ua (ps_ui s1 1131 22 ((1 : Int32) - (ps_i s1 1131 21))) 1135 (Int32.toNatClampNeg (ps_i (ps_ui s1 1131 22 ((1 : Int32) - (ps_i s1 1131 21))) 1131 22)) 0) 1136 (Int32.toNatClampNeg (ps_i (ps_ua (ps_ui s1 1131 22 ((1 : Int32) - (ps_i s1 1131 21))) 1135 (Int32.toNatClampNeg (ps_i (ps_ui s1 1131 22 ((1 : Int32) - (ps_i s1 1131 21))) 1131 22)) 0) 1131 22)) 0) 1131 22)) 0) Q)))))) : ps_At (d + 1) 201 0 [(0, .ref 1131)] [] s Q :=
  ps_wp_at (stops := [(44, [0]), (65, [0]), (88, [0, 1])]) (n := 28) h rfl

theorem pg_201_44 {d : Nat} {s : ps_S} {Q : Option Value → ps_S → Prop} (h :
  ps_Cl d 192 [.ref 1131] s (ps_rI (fun v1 s1 =>
    (v1 = 0 →
      ps_At (d + 1) 201 65 [(0, .ref 1131)] [] s1 Q) ∧
    (v1 ≠ 0 →
      ((ps_i s1 1131 9) = 0 →
        ps_At (d + 1) 201 65 [(0, .ref 1131)] [] s1 Q) ∧
      ((ps_i s1 1131 9) ≠ 0 →
        ps_Cl d 204 [.ref 1131] s1 (ps_rV (fun s2 =>
          ps_At (d + 1) 201 44 [(0, .ref 1131)] [] s2 Q))))))) : ps_At (d + 1) 201 44 [(0, .ref 1131)] [] s Q :=
  ps_wp_at (stops := [(44, [0]), (65, [0]), (88, [0, 1])]) (n := 11) h rfl

theorem pg_201_65 {d : Nat} {s : ps_S} {Q : Option Value → ps_S → Prop} (h :
  ps_Cl d 192 [.ref 1131] s (ps_rI (fun v1 s1 =>
    (v1 ≠ 0 →
      ps_Cl d 202 [.ref 1131] (ps_ui s1 1131 21 (ps_i s1 1131 22)) (ps_rV (fun s2 =>
        ps_At (d + 1) 201 88 [(0, .ref 1131), (1, .int 0)] [] s2 Q))) ∧
    (v1 = 0 →
      Q (some (.int (-1))) s1)))) : ps_At (d + 1) 201 65 [(0, .ref 1131)] [] s Q :=
  ps_wp_at (stops := [(44, [0]), (65, [0]), (88, [0, 1])]) (n := 15) h rfl

theorem pg_201_88 {d : Nat} {x1 : Int32} {s : ps_S} {Q : Option Value → ps_S → Prop} (h :
  (3 ≤ x1 →
    ps_nd (pm_in (ps_i s 1131 21) 2) (Q (some (.int (ps_a s 1137 (Int32.toNatClampNeg (ps_i s 1131 21))))) s)) ∧
  (x1 < 3 →
    ps_nd (pm_in x1 3) (ps_At (d + 1) 201 88 [(0, .ref 1131), (1, .int (x1 + 1))] [] (ps_ua s 1176 (Int32.toNatClampNeg x1) (-1)) Q))) : ps_At (d + 1) 201 88 [(0, .ref 1131), (1, .int x1)] [] s Q :=
  ps_wp_at (stops := [(44, [0]), (65, [0]), (88, [0, 1])]) (n := 18) h rfl

theorem ms_201_88 {x : Nat → Nat → Nat} {t : Int32} {d : Nat} {s0 : ps_S} {σ : mSig} {Q : Option Value → ps_S → Prop} (k : ∀ (v : Int32) (s' : ps_S), mJ x t s' → kp [1133, 1134, 1135, 1136, 1137, 1138, 1139, 1140, 1141, 1142, 1143, 1144, 1145, 1146, 1147, 1148, 1176] [3, 4, 5, 6, 7, 8, 9, 10, 11, 21, 22, 23, 29, 30, 31, 32, 47, 48, 49, 54] s0 s' → (∃ τ, MI τ (ps_a s' 1134) (ps_a s' 1135) (ps_a s' 1136) (ps_a s' 1137) (ps_a s' 1138) (ps_a s' 1139) (ps_a s' 1157) (ps_a s' 1176) (ps_i s' 1131 21).toInt (ps_i s' 1131 47).toInt (ps_i s' 1131 54).toInt) → ((ps_i s' 1131 3).toInt = 0) → Q (some (.int v)) s') : ∀ (n : Nat) (x1 : Int32) (s : ps_S), (mJ x t s) → (kp [1133, 1134, 1135, 1136, 1137, 1138, 1139, 1140, 1141, 1142, 1143, 1144, 1145, 1146, 1147, 1148, 1176] [3, 4, 5, 6, 7, 8, 9, 10, 11, 21, 22, 23, 29, 30, 31, 32, 47, 48, 49, 54] s0 s) → (∃ τ, TH τ (ps_a s 1134) (ps_a s 1135) (ps_a s 1136) (ps_a s 1137) (ps_a s 1138) (ps_a s 1139) (ps_i s 1131 21).toInt) → ((ps_i s 1131 47).toInt = 0) → ((ps_i s 1131 54).toInt = 0) → ((ps_a s 1134 25748).toInt = 0) → (0 ≤ x1.toInt) → (x1.toInt ≤ 3) → (∀ i : Nat, (i : Int) < x1.toInt → (ps_a s 1176 i).toInt = -1) → ((ps_i s 1131 3).toInt = 0) → 3 - x1.toInt ≤ (n : Int) → ps_At (d + 7) 201 88 [(0, .ref 1131), (1, .int x1)] [] s Q := by
  refine xstr (fun n ih => ?_)
  intro x1 s J K hTb i1 i2 i3 i4 i5 i6 i7 hm
  have r1 := mf_47 J
  have r2 := mf_54 J
  have r3 := mf_3 J
  refine pg_201_88 (d := d + 6) ?_
  have ex : Int32.toNatClampNeg x1 = x1.toInt.toNat := rfl
  refine And.intro (fun h4 => ?_) (fun h4 => ?_)
  · have f5 : (3 : Int) ≤ x1.toInt := xle h4
    have r6 := mf_21 J
    refine ps_nd_i (show pm_in (ps_i s 1131 21) 2 = true from xgi (show 0 ≤ (ps_i s 1131 21).toInt from by omega) (show (ps_i s 1131 21).toInt < 2 from by omega)) ?_
    have r7 : 0 ≤ (ps_a s 1137 (Int32.toNatClampNeg (ps_i s 1131 21))).toInt ∧ (ps_a s 1137 (Int32.toNatClampNeg (ps_i s 1131 21))).toInt ≤ 8 := ma_1137 (i := (ps_i s 1131 21)) J (show 0 ≤ (ps_i s 1131 21).toInt from by omega) (show (ps_i s 1131 21).toInt < 2 from by omega)
    exact k (ps_a s 1137 (Int32.toNatClampNeg (ps_i s 1131 21))) _ J K ((by obtain ⟨τ, hT⟩ := hTb; exact ⟨τ, MI_new hT (show (ps_i s 1131 47).toInt = 0 from by omega) (show (ps_i s 1131 54).toInt = 0 from by omega) i3 (fun i hi => i6 i (by omega))⟩)) (show (ps_i s 1131 3).toInt = 0 from by omega)
  · have f8 : x1.toInt < (3 : Int) := xlt h4
    refine ps_nd_i (show pm_in x1 3 = true from xgi (show 0 ≤ x1.toInt from by omega) (show x1.toInt < 3 from by omega)) ?_
    have J9 := mwa_1176 (i := (Int32.toNatClampNeg x1)) (v := (-1 : Int32)) J (show -1 ≤ (-1 : Int) from by omega) (show (-1 : Int) ≤ 12 from by omega)
    have K10 := kpa' K (r := 1176) (i := (Int32.toNatClampNeg x1)) (v := (-1 : Int32)) rfl
    have a11 : (x1 + 1).toInt = x1.toInt + (1 : Int) := xIa (show -2147483648 ≤ x1.toInt + (1 : Int) from by omega) (show x1.toInt + (1 : Int) < 2147483648 from by omega)
    exact ih (n - 1) (show n - 1 < n from by omega) (x1 + 1) _ J9 K10 hTb (show (ps_i s 1131 47).toInt = 0 from by omega) (show (ps_i s 1131 54).toInt = 0 from by omega) (i3) (show 0 ≤ (x1 + 1).toInt from by omega) (show (x1 + 1).toInt ≤ 3 from by omega) (fun i hi => (by by_cases e : i = Int32.toNatClampNeg x1; (rw [e, ua_eq]; decide); exact (congrArg Int32.toInt (ua_ne e)).trans (i6 i (by omega)))) (show (ps_i s 1131 3).toInt = 0 from by omega) (show 3 - (x1 + 1).toInt ≤ ((n - 1 : Nat) : Int) from by omega)

theorem ms_201_65 {x : Nat → Nat → Nat} {t : Int32} {d : Nat} {s0 : ps_S} {σ : mSig} {Q : Option Value → ps_S → Prop} (k : ∀ (v : Int32) (s' : ps_S), mJ x t s' → kp [1133, 1134, 1135, 1136, 1137, 1138, 1139, 1140, 1141, 1142, 1143, 1144, 1145, 1146, 1147, 1148, 1176] [3, 4, 5, 6, 7, 8, 9, 10, 11, 21, 22, 23, 29, 30, 31, 32, 47, 48, 49, 54] s0 s' → (∃ τ, MI τ (ps_a s' 1134) (ps_a s' 1135) (ps_a s' 1136) (ps_a s' 1137) (ps_a s' 1138) (ps_a s' 1139) (ps_a s' 1157) (ps_a s' 1176) (ps_i s' 1131 21).toInt (ps_i s' 1131 47).toInt (ps_i s' 1131 54).toInt) → ((ps_i s' 1131 3).toInt = 0) → Q (some (.int v)) s') (s : ps_S) (J : mJ x t s) (K : kp [1133, 1134, 1135, 1136, 1137, 1138, 1139, 1140, 1141, 1142, 1143, 1144, 1145, 1146, 1147, 1148, 1176] [3, 4, 5, 6, 7, 8, 9, 10, 11, 21, 22, 23, 29, 30, 31, 32, 47, 48, 49, 54] s0 s) (hMI : MI σ (ps_a s 1134) (ps_a s 1135) (ps_a s 1136) (ps_a s 1137) (ps_a s 1138) (ps_a s 1139) (ps_a s 1157) (ps_a s 1176) (ps_i s 1131 21).toInt (ps_i s 1131 47).toInt (ps_i s 1131 54).toInt) (i1 : (ps_i s 1131 22).toInt = 1 - (ps_i s 1131 21).toInt) (i2 : 1 ≤ (ps_i s 1131 5).toInt ∨ ∃ τ, TH τ (ps_a s 1134) (ps_a s 1135) (ps_a s 1136) (ps_a s 1137) (ps_a s 1138) (ps_a s 1139) (ps_i s 1131 22).toInt) (i3 : (ps_i s 1131 3).toInt = 0) : ps_At (d + 7) 201 65 [(0, .ref 1131)] [] s Q := by
  have r1 := mf_22 J
  have r2 := mf_21 J
  have r3 := mf_3 J
  refine pg_201_65 (d := d + 6) ?_
  refine ms_192 J  (fun v4 p4_0 b4 => ?_)
  have p4_0' : (v4.toInt = 0 ∧ 1 ≤ (ps_i s 1131 5).toInt) ∨ (v4.toInt = 1 ∧ (ps_i s 1131 5).toInt = 0) := p4_0
  have r5 := mf_5 J
  refine And.intro (fun h6 => ?_) (fun h6 => ?_)
  · have f7 : v4.toInt ≠ (0 : Int) := xne h6
    have J8 := mwi_21 (v := (ps_i s 1131 22)) J (show 0 ≤ (ps_i s 1131 22).toInt from by omega) (show (ps_i s 1131 22).toInt ≤ 1 from by omega)
    have K9 := kpi K (q := 21) (v := (ps_i s 1131 22)) rfl
    refine pg_202_0 ?_
    have J10 := mwi_47 (v := (0 : Int32)) J8 (show 0 ≤ (0 : Int) from by omega) (show (0 : Int) ≤ 40 from by omega)
    have K11 := kpi K9 (q := 47) (v := (0 : Int32)) rfl
    have J12 := mwi_48 (v := (-1 : Int32)) J10 (show -1 ≤ (-1 : Int) from by omega) (show (-1 : Int) ≤ 40 from by omega)
    have K13 := kpi K11 (q := 48) (v := (-1 : Int32)) rfl
    have J14 := mwi_n 49 (v := (-1 : Int32)) J12 rfl
    have K15 := kpi K13 (q := 49) (v := (-1 : Int32)) rfl
    have J16 := mwi_54 (v := (0 : Int32)) J14 (show 0 ≤ (0 : Int) from by omega) (show (0 : Int) ≤ 12 from by omega)
    have K17 := kpi K15 (q := 54) (v := (0 : Int32)) rfl
    refine ps_nd_i (show pm_in (25748 : Int32) 27400 = true from xgi (show 0 ≤ (25748 : Int) from by omega) (show (25748 : Int) < 27400 from by omega)) ?_
    have J18 := mw_p (i := (25748 : Int32)) (v := (0 : Int32)) J16 (show (25748 : Int) % 41 = 0 → 0 ≤ (0 : Int) ∧ (0 : Int) ≤ 40 from by omega) (show 0 ≤ (25748 : Int) from by omega)
    have K19 := kpa' K17 (r := 1134) (i := (Int32.toNatClampNeg (25748 : Int32))) (v := (0 : Int32)) rfl
    refine ps_nd_i (show pm_in (25789 : Int32) 27400 = true from xgi (show 0 ≤ (25789 : Int) from by omega) (show (25789 : Int) < 27400 from by omega)) ?_
    have J20 := mw_p (i := (25789 : Int32)) (v := (0 : Int32)) J18 (show (25789 : Int) % 41 = 0 → 0 ≤ (0 : Int) ∧ (0 : Int) ≤ 40 from by omega) (show 0 ≤ (25789 : Int) from by omega)
    have K21 := kpa' K19 (r := 1134) (i := (Int32.toNatClampNeg (25789 : Int32))) (v := (0 : Int32)) rfl
    exact ms_201_88 (σ := σ) k  (3 - (0 : Int)).toNat (0) _ J20 K21 ((by obtain ⟨τ, hT⟩ := i2.resolve_left (by omega); exact ⟨τ, TH_keep hT (fun k hk => (ua_ne (show k ≠ 25789 from by omega)).trans (ua_ne (show k ≠ 25748 from by omega)))⟩)) (show (0 : Int) = 0 from by omega) (show (0 : Int) = 0 from by omega) ((by rw [show ps_a (ps_ua (ps_ua (ps_ui (ps_ui (ps_ui (ps_ui (ps_ui s 1131 21 (ps_i s 1131 22)) 1131 47 0) 1131 48 (-1)) 1131 49 (-1)) 1131 54 0) 1134 (Int32.toNatClampNeg (25748 : Int32)) 0) 1134 (Int32.toNatClampNeg (25789 : Int32)) 0) 1134 25748 = (0 : Int32) from (ua_ne (show (25748 : Nat) ≠ 25789 from by decide)).trans ua_eq]; rfl)) (show 0 ≤ (0 : Int) from by omega) (show (0 : Int) ≤ 3 from by omega) (fun i hi => absurd hi (by rw [Int32.toInt_zero]; omega)) (show (ps_i s 1131 3).toInt = 0 from by omega) (show 3 - (0 : Int) ≤ (((3 - (0 : Int)).toNat : Nat) : Int) from by omega)
  · have f22 : v4.toInt = (0 : Int) := xeq h6
    exact k (-1 : Int32) _ J K (⟨σ, hMI⟩) (show (ps_i s 1131 3).toInt = 0 from by omega)

theorem ms_201_44 {x : Nat → Nat → Nat} {t : Int32} {d : Nat} {s0 : ps_S} {σ : mSig} {Q : Option Value → ps_S → Prop} (k : ∀ (v : Int32) (s' : ps_S), mJ x t s' → kp [1133, 1134, 1135, 1136, 1137, 1138, 1139, 1140, 1141, 1142, 1143, 1144, 1145, 1146, 1147, 1148, 1176] [3, 4, 5, 6, 7, 8, 9, 10, 11, 21, 22, 23, 29, 30, 31, 32, 47, 48, 49, 54] s0 s' → (∃ τ, MI τ (ps_a s' 1134) (ps_a s' 1135) (ps_a s' 1136) (ps_a s' 1137) (ps_a s' 1138) (ps_a s' 1139) (ps_a s' 1157) (ps_a s' 1176) (ps_i s' 1131 21).toInt (ps_i s' 1131 47).toInt (ps_i s' 1131 54).toInt) → ((ps_i s' 1131 3).toInt = 0) → Q (some (.int v)) s') : ∀ (n : Nat) (s : ps_S), (mJ x t s) → (kp [1133, 1134, 1135, 1136, 1137, 1138, 1139, 1140, 1141, 1142, 1143, 1144, 1145, 1146, 1147, 1148, 1176] [3, 4, 5, 6, 7, 8, 9, 10, 11, 21, 22, 23, 29, 30, 31, 32, 47, 48, 49, 54] s0 s) → (MI σ (ps_a s 1134) (ps_a s 1135) (ps_a s 1136) (ps_a s 1137) (ps_a s 1138) (ps_a s 1139) (ps_a s 1157) (ps_a s 1176) (ps_i s 1131 21).toInt (ps_i s 1131 47).toInt (ps_i s 1131 54).toInt) → ((ps_i s 1131 8).toInt ≤ (ps_i s 1131 4).toInt) → ((ps_i s 1131 22).toInt = 1 - (ps_i s 1131 21).toInt) → (1 ≤ (ps_i s 1131 5).toInt ∨ ∃ τ, TH τ (ps_a s 1134) (ps_a s 1135) (ps_a s 1136) (ps_a s 1137) (ps_a s 1138) (ps_a s 1139) (ps_i s 1131 22).toInt) → ((ps_i s 1131 47).toInt ≤ 40) → ((ps_i s 1131 3).toInt = 0) → 2 * (20 - ((ps_a s 1135 (Int32.toNatClampNeg (ps_i s 1131 22))).toInt + (ps_a s 1136 (Int32.toNatClampNeg (ps_i s 1131 22))).toInt + (ps_a s 1137 (Int32.toNatClampNeg (ps_i s 1131 22))).toInt)) - (ps_i s 1131 5).toInt ≤ (n : Int) → ps_At (d + 7) 201 44 [(0, .ref 1131)] [] s Q := by
  refine xstr (fun n ih => ?_)
  intro s J K hMI i1 i2 i3 i4 i5 hm
  have r1 := mf_8 J
  have r2 := mf_4 J
  have r3 := mf_22 J
  have r4 := mf_21 J
  have r5 := mf_47 J
  have r6 := mf_3 J
  have r7 := mf_5 J
  have r8 : 0 ≤ (ps_a s 1135 (Int32.toNatClampNeg (ps_i s 1131 22))).toInt ∧ (ps_a s 1135 (Int32.toNatClampNeg (ps_i s 1131 22))).toInt ≤ 6 := ma_1135 (i := (ps_i s 1131 22)) J (show 0 ≤ (ps_i s 1131 22).toInt from by omega) (show (ps_i s 1131 22).toInt < 2 from by omega)
  have r9 : 0 ≤ (ps_a s 1136 (Int32.toNatClampNeg (ps_i s 1131 22))).toInt ∧ (ps_a s 1136 (Int32.toNatClampNeg (ps_i s 1131 22))).toInt ≤ 4 := ma_1136 (i := (ps_i s 1131 22)) J (show 0 ≤ (ps_i s 1131 22).toInt from by omega) (show (ps_i s 1131 22).toInt < 2 from by omega)
  have r10 : 0 ≤ (ps_a s 1137 (Int32.toNatClampNeg (ps_i s 1131 22))).toInt ∧ (ps_a s 1137 (Int32.toNatClampNeg (ps_i s 1131 22))).toInt ≤ 8 := ma_1137 (i := (ps_i s 1131 22)) J (show 0 ≤ (ps_i s 1131 22).toInt from by omega) (show (ps_i s 1131 22).toInt < 2 from by omega)
  refine pg_201_44 (d := d + 6) ?_
  refine ms_192 J  (fun v11 p11_0 b11 => ?_)
  have p11_0' : (v11.toInt = 0 ∧ 1 ≤ (ps_i s 1131 5).toInt) ∨ (v11.toInt = 1 ∧ (ps_i s 1131 5).toInt = 0) := p11_0
  refine And.intro (fun h12 => ?_) (fun h12 => ?_)
  · have f13 : v11.toInt = (0 : Int) := xeq h12
    exact ms_201_65 (σ := σ) k   _ J K hMI (show (ps_i s 1131 22).toInt = 1 - (ps_i s 1131 21).toInt from by omega) (by assumption) (show (ps_i s 1131 3).toInt = 0 from by omega)
  · have f14 : v11.toInt ≠ (0 : Int) := xne h12
    have r15 := mf_9 J
    refine And.intro (fun h16 => ?_) (fun h16 => ?_)
    · have f17 : (ps_i s 1131 9).toInt = (0 : Int) := xeq h16
      exact ms_201_65 (σ := σ) k   _ J K hMI (show (ps_i s 1131 22).toInt = 1 - (ps_i s 1131 21).toInt from by omega) (by assumption) (show (ps_i s 1131 3).toInt = 0 from by omega)
    · have f18 : (ps_i s 1131 9).toInt ≠ (0 : Int) := xne h16
      obtain ⟨τ, hT⟩ := i3.resolve_left (by omega)
      have hM0 : MI σ (ps_a s 1134) (ps_a s 1135) (ps_a s 1136) (ps_a s 1137) (ps_a s 1138) (ps_a s 1139) (ps_a s 1157) (ps_a s 1176) (ps_i s 1131 21).toInt (ps_i s 1131 47).toInt (ps_i s 1131 54).toInt := hMI
      refine ms_204 J (hT) (rfl) (rfl) (rfl) (show (ps_i s 1131 8).toInt ≤ (ps_i s 1131 4).toInt from by omega) (show (ps_i s 1131 5).toInt = 0 from by omega) (fun s19 J19 K19 p19_0 p19_1 p19_2 p19_3 p19_4 => ?_)
      have K20 := kpt K K19 rfl rfl
      have KC := K19
      have hM0 : MI σ (ps_a s 1134) (ps_a s 1135) (ps_a s 1136) (ps_a s 1137) (ps_a s 1138) (ps_a s 1139) (ps_a s19 1157) (ps_a s19 1176) (ps_i s19 1131 21).toInt (ps_i s19 1131 47).toInt (ps_i s19 1131 54).toInt := by rw [show ps_a s19 1157 = ps_a s 1157 from (K19.2 1157 rfl).1, show ps_a s19 1176 = ps_a s 1176 from (K19.2 1176 rfl).1, show ps_i s19 1131 21 = ps_i s 1131 21 from kp_i K19 21 rfl, show ps_i s19 1131 47 = ps_i s 1131 47 from kp_i K19 47 rfl, show ps_i s19 1131 54 = ps_i s 1131 54 from kp_i K19 54 rfl]; exact hM0
      have p19_0' : (ps_i s19 1131 8).toInt ≤ (ps_i s19 1131 4).toInt := p19_0
      have r21 := mf_8 J19
      have r22 := mf_4 J19
      have u23 : (ps_i s19 1131 4).toInt = (ps_i s 1131 4).toInt := xeq (kp_i K19 4 rfl)
      have hT1 : _ := p19_1
      have hKB : _ := p19_2
      have hs1 : _ := p19_3
      have hs2 : _ := p19_4
      have r24 := mf_22 J19
      have u25 : (ps_i s19 1131 22).toInt = (ps_i s 1131 22).toInt := xeq (kp_i K19 22 rfl)
      have r26 := mf_21 J19
      have u27 : (ps_i s19 1131 21).toInt = (ps_i s 1131 21).toInt := xeq (kp_i K19 21 rfl)
      have r28 := mf_47 J19
      have u29 : (ps_i s19 1131 47).toInt = (ps_i s 1131 47).toInt := xeq (kp_i K19 47 rfl)
      have r30 := mf_3 J19
      have u31 : (ps_i s19 1131 3).toInt = (ps_i s 1131 3).toInt := xeq (kp_i K19 3 rfl)
      have r32 := mf_5 J19
      have r33 : 0 ≤ (ps_a s19 1135 (Int32.toNatClampNeg (ps_i s19 1131 22))).toInt ∧ (ps_a s19 1135 (Int32.toNatClampNeg (ps_i s19 1131 22))).toInt ≤ 6 := ma_1135 (i := (ps_i s19 1131 22)) J19 (show 0 ≤ (ps_i s19 1131 22).toInt from by omega) (show (ps_i s19 1131 22).toInt < 2 from by omega)
      have r34 : 0 ≤ (ps_a s19 1136 (Int32.toNatClampNeg (ps_i s19 1131 22))).toInt ∧ (ps_a s19 1136 (Int32.toNatClampNeg (ps_i s19 1131 22))).toInt ≤ 4 := ma_1136 (i := (ps_i s19 1131 22)) J19 (show 0 ≤ (ps_i s19 1131 22).toInt from by omega) (show (ps_i s19 1131 22).toInt < 2 from by omega)
      have r35 : 0 ≤ (ps_a s19 1137 (Int32.toNatClampNeg (ps_i s19 1131 22))).toInt ∧ (ps_a s19 1137 (Int32.toNatClampNeg (ps_i s19 1131 22))).toInt ≤ 8 := ma_1137 (i := (ps_i s19 1131 22)) J19 (show 0 ≤ (ps_i s19 1131 22).toInt from by omega) (show (ps_i s19 1131 22).toInt < 2 from by omega)
      exact ih (n - 1) (show n - 1 < n from by omega)  _ J19 K20 (MI_bank hM0 hKB (show (ps_i s19 1131 22).toInt = 1 - (ps_i s19 1131 21).toInt from by omega) (show (ps_i s19 1131 47).toInt ≤ 40 from by omega)) (show (ps_i s19 1131 8).toInt ≤ (ps_i s19 1131 4).toInt from by omega) (show (ps_i s19 1131 22).toInt = 1 - (ps_i s19 1131 21).toInt from by omega) (hT1) (show (ps_i s19 1131 47).toInt ≤ 40 from by omega) (show (ps_i s19 1131 3).toInt = 0 from by omega) (show 2 * (20 - ((ps_a s19 1135 (Int32.toNatClampNeg (ps_i s19 1131 22))).toInt + (ps_a s19 1136 (Int32.toNatClampNeg (ps_i s19 1131 22))).toInt + (ps_a s19 1137 (Int32.toNatClampNeg (ps_i s19 1131 22))).toInt)) - (ps_i s19 1131 5).toInt ≤ ((n - 1 : Nat) : Int) from by omega)

theorem ms_201 {x : Nat → Nat → Nat} {t : Int32} {s : ps_S} {d : Nat} {f : Int32 → ps_S → Prop} (J : mJ x t s) {σ : mSig} (hMI : MI σ (ps_a s 1134) (ps_a s 1135) (ps_a s 1136) (ps_a s 1137) (ps_a s 1138) (ps_a s 1139) (ps_a s 1157) (ps_a s 1176) (ps_i s 1131 21).toInt (ps_i s 1131 47).toInt (ps_i s 1131 54).toInt) (k : ∀ (v : Int32) (s' : ps_S), mJ x t s' → kp [1133, 1134, 1135, 1136, 1137, 1138, 1139, 1140, 1141, 1142, 1143, 1144, 1145, 1146, 1147, 1148, 1176] [3, 4, 5, 6, 7, 8, 9, 10, 11, 21, 22, 23, 29, 30, 31, 32, 47, 48, 49, 54] s s' → (∃ τ, MI τ (ps_a s' 1134) (ps_a s' 1135) (ps_a s' 1136) (ps_a s' 1137) (ps_a s' 1138) (ps_a s' 1139) (ps_a s' 1157) (ps_a s' 1176) (ps_i s' 1131 21).toInt (ps_i s' 1131 47).toInt (ps_i s' 1131 54).toInt) → ((ps_i s' 1131 3).toInt = 0) → f v s') : ps_Cl (d + 7) 201 [.ref 1131] s (ps_rI f) := by
  have K : kp [1133, 1134, 1135, 1136, 1137, 1138, 1139, 1140, 1141, 1142, 1143, 1144, 1145, 1146, 1147, 1148, 1176] [3, 4, 5, 6, 7, 8, 9, 10, 11, 21, 22, 23, 29, 30, 31, 32, 47, 48, 49, 54] s s := kp_refl
  refine pg_201_0 (d := d + 6) ?_
  refine ms_198 J  (fun s1 J1 K1 p1_0 p1_1 p1_2 p1_3 p1_4 => ?_)
  have K2 := kpt K K1 rfl rfl
  have KC := K1
  have hMI : MI σ (ps_a s1 1134) (ps_a s1 1135) (ps_a s1 1136) (ps_a s1 1137) (ps_a s1 1138) (ps_a s1 1139) (ps_a s1 1157) (ps_a s1 1176) (ps_i s1 1131 21).toInt (ps_i s1 1131 47).toInt (ps_i s1 1131 54).toInt := by rw [show ps_a s1 1134 = ps_a s 1134 from (K1.2 1134 rfl).1, show ps_a s1 1135 = ps_a s 1135 from (K1.2 1135 rfl).1, show ps_a s1 1136 = ps_a s 1136 from (K1.2 1136 rfl).1, show ps_a s1 1137 = ps_a s 1137 from (K1.2 1137 rfl).1, show ps_a s1 1138 = ps_a s 1138 from (K1.2 1138 rfl).1, show ps_a s1 1139 = ps_a s 1139 from (K1.2 1139 rfl).1, show ps_a s1 1157 = ps_a s 1157 from (K1.2 1157 rfl).1, show ps_a s1 1176 = ps_a s 1176 from (K1.2 1176 rfl).1, show ps_i s1 1131 21 = ps_i s 1131 21 from kp_i K1 21 rfl, show ps_i s1 1131 47 = ps_i s 1131 47 from kp_i K1 47 rfl, show ps_i s1 1131 54 = ps_i s 1131 54 from kp_i K1 54 rfl]; exact hMI
  have p1_0' : (ps_i s1 1131 8).toInt ≤ (ps_i s1 1131 4).toInt := p1_0
  have r3 := mf_8 J1
  have r4 := mf_4 J1
  have p1_1' : (ps_i s1 1131 5).toInt = 0 := p1_1
  have r5 := mf_5 J1
  have p1_2' : (ps_i s1 1131 3).toInt = 0 := p1_2
  have r6 := mf_3 J1
  have p1_3' : (ps_i s1 1131 23).toInt = 0 := p1_3
  have r7 := mf_23 J1
  have p1_4' : (ps_i s1 1131 22).toInt = (ps_i s1 1131 21).toInt := p1_4
  have r8 := mf_22 J1
  have r9 := mf_21 J1
  have u10 : (ps_i s1 1131 21).toInt = (ps_i s 1131 21).toInt := xeq (kp_i K1 21 rfl)
  have r11 := mf_21 J
  have a12 : ((1 : Int32) - (ps_i s1 1131 21)).toInt = (1 : Int) - (ps_i s1 1131 21).toInt := xIs (show -2147483648 ≤ (1 : Int) - (ps_i s1 1131 21).toInt from by omega) (show (1 : Int) - (ps_i s1 1131 21).toInt < 2147483648 from by omega)
  have J13 := mwi_22 (v := ((1 : Int32) - (ps_i s1 1131 21))) J1 (show 0 ≤ ((1 : Int32) - (ps_i s1 1131 21)).toInt from by omega) (show ((1 : Int32) - (ps_i s1 1131 21)).toInt ≤ 1 from by omega)
  have K14 := kpi K2 (q := 22) (v := ((1 : Int32) - (ps_i s1 1131 21))) rfl
  refine ps_nd_i (show pm_in ((1 : Int32) - (ps_i s1 1131 21)) 2 = true from xgi (show 0 ≤ ((1 : Int32) - (ps_i s1 1131 21)).toInt from by omega) (show ((1 : Int32) - (ps_i s1 1131 21)).toInt < 2 from by omega)) ?_
  have J15 := mwa_1135 (i := (Int32.toNatClampNeg ((1 : Int32) - (ps_i s1 1131 21)))) (v := (0 : Int32)) J13 (show 0 ≤ (0 : Int) from by omega) (show (0 : Int) ≤ 6 from by omega)
  have K16 := kpa' K14 (r := 1135) (i := (Int32.toNatClampNeg ((1 : Int32) - (ps_i s1 1131 21)))) (v := (0 : Int32)) rfl
  refine ps_nd_i (show pm_in ((1 : Int32) - (ps_i s1 1131 21)) 2 = true from xgi (show 0 ≤ ((1 : Int32) - (ps_i s1 1131 21)).toInt from by omega) (show ((1 : Int32) - (ps_i s1 1131 21)).toInt < 2 from by omega)) ?_
  have J17 := mwa_1136 (i := (Int32.toNatClampNeg ((1 : Int32) - (ps_i s1 1131 21)))) (v := (0 : Int32)) J15 (show 0 ≤ (0 : Int) from by omega) (show (0 : Int) ≤ 4 from by omega)
  have K18 := kpa' K16 (r := 1136) (i := (Int32.toNatClampNeg ((1 : Int32) - (ps_i s1 1131 21)))) (v := (0 : Int32)) rfl
  refine ps_nd_i (show pm_in ((1 : Int32) - (ps_i s1 1131 21)) 2 = true from xgi (show 0 ≤ ((1 : Int32) - (ps_i s1 1131 21)).toInt from by omega) (show ((1 : Int32) - (ps_i s1 1131 21)).toInt < 2 from by omega)) ?_
  have J19 := mwa_1137 (i := (Int32.toNatClampNeg ((1 : Int32) - (ps_i s1 1131 21)))) (v := (0 : Int32)) J17 (show 0 ≤ (0 : Int) from by omega) (show (0 : Int) ≤ 8 from by omega)
  have K20 := kpa' K18 (r := 1137) (i := (Int32.toNatClampNeg ((1 : Int32) - (ps_i s1 1131 21)))) (v := (0 : Int32)) rfl
  have r21 := mf_47 J1
  have u22 : (ps_i s1 1131 47).toInt = (ps_i s 1131 47).toInt := xeq (kp_i K1 47 rfl)
  have r23 := mf_47 J
  have w24 : (ps_a (ps_ua (ps_ui s1 1131 22 ((1 : Int32) - (ps_i s1 1131 21))) 1135 (Int32.toNatClampNeg ((1 : Int32) - (ps_i s1 1131 21))) 0) 1135 (Int32.toNatClampNeg ((1 : Int32) - (ps_i s1 1131 21)))).toInt = (0 : Int) := xeq ua_eq
  have w25 : (ps_a (ps_ua (ps_ua (ps_ui s1 1131 22 ((1 : Int32) - (ps_i s1 1131 21))) 1135 (Int32.toNatClampNeg ((1 : Int32) - (ps_i s1 1131 21))) 0) 1136 (Int32.toNatClampNeg ((1 : Int32) - (ps_i s1 1131 21))) 0) 1136 (Int32.toNatClampNeg ((1 : Int32) - (ps_i s1 1131 21)))).toInt = (0 : Int) := xeq ua_eq
  have w26 : (ps_a (ps_ua (ps_ua (ps_ua (ps_ui s1 1131 22 ((1 : Int32) - (ps_i s1 1131 21))) 1135 (Int32.toNatClampNeg ((1 : Int32) - (ps_i s1 1131 21))) 0) 1136 (Int32.toNatClampNeg ((1 : Int32) - (ps_i s1 1131 21))) 0) 1137 (Int32.toNatClampNeg ((1 : Int32) - (ps_i s1 1131 21))) 0) 1137 (Int32.toNatClampNeg ((1 : Int32) - (ps_i s1 1131 21)))).toInt = (0 : Int) := xeq ua_eq
  have r27 : 0 ≤ (ps_a (ps_ua (ps_ua (ps_ua (ps_ui s1 1131 22 ((1 : Int32) - (ps_i s1 1131 21))) 1135 (Int32.toNatClampNeg ((1 : Int32) - (ps_i s1 1131 21))) 0) 1136 (Int32.toNatClampNeg ((1 : Int32) - (ps_i s1 1131 21))) 0) 1137 (Int32.toNatClampNeg ((1 : Int32) - (ps_i s1 1131 21))) 0) 1137 (Int32.toNatClampNeg ((1 : Int32) - (ps_i s1 1131 21)))).toInt ∧ (ps_a (ps_ua (ps_ua (ps_ua (ps_ui s1 1131 22 ((1 : Int32) - (ps_i s1 1131 21))) 1135 (Int32.toNatClampNeg ((1 : Int32) - (ps_i s1 1131 21))) 0) 1136 (Int32.toNatClampNeg ((1 : Int32) - (ps_i s1 1131 21))) 0) 1137 (Int32.toNatClampNeg ((1 : Int32) - (ps_i s1 1131 21))) 0) 1137 (Int32.toNatClampNeg ((1 : Int32) - (ps_i s1 1131 21)))).toInt ≤ 8 := ma_1137 (i := ((1 : Int32) - (ps_i s1 1131 21))) J19 (show 0 ≤ ((1 : Int32) - (ps_i s1 1131 21)).toInt from by omega) (show ((1 : Int32) - (ps_i s1 1131 21)).toInt < 2 from by omega)
  exact ms_201_44 (σ := σ) k  (2 * (20 - ((ps_a (ps_ua (ps_ui s1 1131 22 ((1 : Int32) - (ps_i s1 1131 21))) 1135 (Int32.toNatClampNeg ((1 : Int32) - (ps_i s1 1131 21))) 0) 1135 (Int32.toNatClampNeg ((1 : Int32) - (ps_i s1 1131 21)))).toInt + (ps_a (ps_ua (ps_ua (ps_ui s1 1131 22 ((1 : Int32) - (ps_i s1 1131 21))) 1135 (Int32.toNatClampNeg ((1 : Int32) - (ps_i s1 1131 21))) 0) 1136 (Int32.toNatClampNeg ((1 : Int32) - (ps_i s1 1131 21))) 0) 1136 (Int32.toNatClampNeg ((1 : Int32) - (ps_i s1 1131 21)))).toInt + (ps_a (ps_ua (ps_ua (ps_ua (ps_ui s1 1131 22 ((1 : Int32) - (ps_i s1 1131 21))) 1135 (Int32.toNatClampNeg ((1 : Int32) - (ps_i s1 1131 21))) 0) 1136 (Int32.toNatClampNeg ((1 : Int32) - (ps_i s1 1131 21))) 0) 1137 (Int32.toNatClampNeg ((1 : Int32) - (ps_i s1 1131 21))) 0) 1137 (Int32.toNatClampNeg ((1 : Int32) - (ps_i s1 1131 21)))).toInt)) - (ps_i s1 1131 5).toInt).toNat  _ J19 K20 ((by have hKB : KB ((1 : Int32) - (ps_i s1 1131 21)).toInt (ps_a s1 1134) (ps_a s1 1135) (ps_a s1 1136) (ps_a s1 1137) (ps_a s1 1138) (ps_a s1 1139) (ps_a (ps_ua (ps_ua (ps_ua (ps_ui s1 1131 22 ((1 : Int32) - (ps_i s1 1131 21))) 1135 (Int32.toNatClampNeg ((1 : Int32) - (ps_i s1 1131 21))) 0) 1136 (Int32.toNatClampNeg ((1 : Int32) - (ps_i s1 1131 21))) 0) 1137 (Int32.toNatClampNeg ((1 : Int32) - (ps_i s1 1131 21))) 0) 1134) (ps_a (ps_ua (ps_ua (ps_ua (ps_ui s1 1131 22 ((1 : Int32) - (ps_i s1 1131 21))) 1135 (Int32.toNatClampNeg ((1 : Int32) - (ps_i s1 1131 21))) 0) 1136 (Int32.toNatClampNeg ((1 : Int32) - (ps_i s1 1131 21))) 0) 1137 (Int32.toNatClampNeg ((1 : Int32) - (ps_i s1 1131 21))) 0) 1135) (ps_a (ps_ua (ps_ua (ps_ua (ps_ui s1 1131 22 ((1 : Int32) - (ps_i s1 1131 21))) 1135 (Int32.toNatClampNeg ((1 : Int32) - (ps_i s1 1131 21))) 0) 1136 (Int32.toNatClampNeg ((1 : Int32) - (ps_i s1 1131 21))) 0) 1137 (Int32.toNatClampNeg ((1 : Int32) - (ps_i s1 1131 21))) 0) 1136) (ps_a (ps_ua (ps_ua (ps_ua (ps_ui s1 1131 22 ((1 : Int32) - (ps_i s1 1131 21))) 1135 (Int32.toNatClampNeg ((1 : Int32) - (ps_i s1 1131 21))) 0) 1136 (Int32.toNatClampNeg ((1 : Int32) - (ps_i s1 1131 21))) 0) 1137 (Int32.toNatClampNeg ((1 : Int32) - (ps_i s1 1131 21))) 0) 1137) (ps_a (ps_ua (ps_ua (ps_ua (ps_ui s1 1131 22 ((1 : Int32) - (ps_i s1 1131 21))) 1135 (Int32.toNatClampNeg ((1 : Int32) - (ps_i s1 1131 21))) 0) 1136 (Int32.toNatClampNeg ((1 : Int32) - (ps_i s1 1131 21))) 0) 1137 (Int32.toNatClampNeg ((1 : Int32) - (ps_i s1 1131 21))) 0) 1138) (ps_a (ps_ua (ps_ua (ps_ua (ps_ui s1 1131 22 ((1 : Int32) - (ps_i s1 1131 21))) 1135 (Int32.toNatClampNeg ((1 : Int32) - (ps_i s1 1131 21))) 0) 1136 (Int32.toNatClampNeg ((1 : Int32) - (ps_i s1 1131 21))) 0) 1137 (Int32.toNatClampNeg ((1 : Int32) - (ps_i s1 1131 21))) 0) 1139) := KB_7 (i := Int32.toNatClampNeg ((1 : Int32) - (ps_i s1 1131 21))) (KB_6 (i := Int32.toNatClampNeg ((1 : Int32) - (ps_i s1 1131 21))) (KB_5 (i := Int32.toNatClampNeg ((1 : Int32) - (ps_i s1 1131 21))) KB_0 (show ((Int32.toNatClampNeg ((1 : Int32) - (ps_i s1 1131 21)) : Nat) : Int) = ((1 : Int32) - (ps_i s1 1131 21)).toInt from by rw [nx (n := ((1 : Int32) - (ps_i s1 1131 21)).toInt) rfl]; omega) (fun j hj => (ua_ne hj).trans ((ua_ne hj).trans (ua_ne hj)))) (show ((Int32.toNatClampNeg ((1 : Int32) - (ps_i s1 1131 21)) : Nat) : Int) = ((1 : Int32) - (ps_i s1 1131 21)).toInt from by rw [nx (n := ((1 : Int32) - (ps_i s1 1131 21)).toInt) rfl]; omega) (fun j hj => (ua_ne hj).trans ((ua_ne hj).trans (ua_ne hj)))) (show ((Int32.toNatClampNeg ((1 : Int32) - (ps_i s1 1131 21)) : Nat) : Int) = ((1 : Int32) - (ps_i s1 1131 21)).toInt from by rw [nx (n := ((1 : Int32) - (ps_i s1 1131 21)).toInt) rfl]; omega) (fun j hj => (ua_ne hj).trans ((ua_ne hj).trans (ua_ne hj))); exact MI_bank hMI hKB (show ((1 : Int32) - (ps_i s1 1131 21)).toInt = 1 - (ps_i s1 1131 21).toInt from by omega) (show (ps_i s1 1131 47).toInt ≤ 40 from by omega))) (show (ps_i s1 1131 8).toInt ≤ (ps_i s1 1131 4).toInt from by omega) (show ((1 : Int32) - (ps_i s1 1131 21)).toInt = 1 - (ps_i s1 1131 21).toInt from by omega) (Or.inr ⟨_, TH_0 (show 0 ≤ ((1 : Int32) - (ps_i s1 1131 21)).toInt from by omega) (show ((1 : Int32) - (ps_i s1 1131 21)).toInt ≤ 1 from by omega) (show (ps_a (ps_ua (ps_ua (ps_ua (ps_ui s1 1131 22 ((1 : Int32) - (ps_i s1 1131 21))) 1135 (Int32.toNatClampNeg ((1 : Int32) - (ps_i s1 1131 21))) 0) 1136 (Int32.toNatClampNeg ((1 : Int32) - (ps_i s1 1131 21))) 0) 1137 (Int32.toNatClampNeg ((1 : Int32) - (ps_i s1 1131 21))) 0) 1135 (Int32.toNatClampNeg ((1 : Int32) - (ps_i s1 1131 21)))).toInt = 0 from by rw [show ps_a (ps_ua (ps_ua (ps_ua (ps_ui s1 1131 22 ((1 : Int32) - (ps_i s1 1131 21))) 1135 (Int32.toNatClampNeg ((1 : Int32) - (ps_i s1 1131 21))) 0) 1136 (Int32.toNatClampNeg ((1 : Int32) - (ps_i s1 1131 21))) 0) 1137 (Int32.toNatClampNeg ((1 : Int32) - (ps_i s1 1131 21))) 0) 1135 (Int32.toNatClampNeg ((1 : Int32) - (ps_i s1 1131 21))) = (0 : Int32) from by rw [ps_a_ua, if_neg (fun z => absurd z.1 (by decide)), ps_a_ua, if_neg (fun z => absurd z.1 (by decide)), ps_a_ua, if_pos ⟨rfl, rfl⟩]]; rfl) (show (ps_a (ps_ua (ps_ua (ps_ua (ps_ui s1 1131 22 ((1 : Int32) - (ps_i s1 1131 21))) 1135 (Int32.toNatClampNeg ((1 : Int32) - (ps_i s1 1131 21))) 0) 1136 (Int32.toNatClampNeg ((1 : Int32) - (ps_i s1 1131 21))) 0) 1137 (Int32.toNatClampNeg ((1 : Int32) - (ps_i s1 1131 21))) 0) 1136 (Int32.toNatClampNeg ((1 : Int32) - (ps_i s1 1131 21)))).toInt = 0 from by rw [show ps_a (ps_ua (ps_ua (ps_ua (ps_ui s1 1131 22 ((1 : Int32) - (ps_i s1 1131 21))) 1135 (Int32.toNatClampNeg ((1 : Int32) - (ps_i s1 1131 21))) 0) 1136 (Int32.toNatClampNeg ((1 : Int32) - (ps_i s1 1131 21))) 0) 1137 (Int32.toNatClampNeg ((1 : Int32) - (ps_i s1 1131 21))) 0) 1136 (Int32.toNatClampNeg ((1 : Int32) - (ps_i s1 1131 21))) = (0 : Int32) from by rw [ps_a_ua, if_neg (fun z => absurd z.1 (by decide)), ps_a_ua, if_pos ⟨rfl, rfl⟩]]; rfl) (show (ps_a (ps_ua (ps_ua (ps_ua (ps_ui s1 1131 22 ((1 : Int32) - (ps_i s1 1131 21))) 1135 (Int32.toNatClampNeg ((1 : Int32) - (ps_i s1 1131 21))) 0) 1136 (Int32.toNatClampNeg ((1 : Int32) - (ps_i s1 1131 21))) 0) 1137 (Int32.toNatClampNeg ((1 : Int32) - (ps_i s1 1131 21))) 0) 1137 (Int32.toNatClampNeg ((1 : Int32) - (ps_i s1 1131 21)))).toInt = 0 from by rw [show ps_a (ps_ua (ps_ua (ps_ua (ps_ui s1 1131 22 ((1 : Int32) - (ps_i s1 1131 21))) 1135 (Int32.toNatClampNeg ((1 : Int32) - (ps_i s1 1131 21))) 0) 1136 (Int32.toNatClampNeg ((1 : Int32) - (ps_i s1 1131 21))) 0) 1137 (Int32.toNatClampNeg ((1 : Int32) - (ps_i s1 1131 21))) 0) 1137 (Int32.toNatClampNeg ((1 : Int32) - (ps_i s1 1131 21))) = (0 : Int32) from by rw [ps_a_ua, if_pos ⟨rfl, rfl⟩]]; rfl)⟩) (show (ps_i s1 1131 47).toInt ≤ 40 from by omega) (show (ps_i s1 1131 3).toInt = 0 from by omega) (show 2 * (20 - ((ps_a (ps_ua (ps_ui s1 1131 22 ((1 : Int32) - (ps_i s1 1131 21))) 1135 (Int32.toNatClampNeg ((1 : Int32) - (ps_i s1 1131 21))) 0) 1135 (Int32.toNatClampNeg ((1 : Int32) - (ps_i s1 1131 21)))).toInt + (ps_a (ps_ua (ps_ua (ps_ui s1 1131 22 ((1 : Int32) - (ps_i s1 1131 21))) 1135 (Int32.toNatClampNeg ((1 : Int32) - (ps_i s1 1131 21))) 0) 1136 (Int32.toNatClampNeg ((1 : Int32) - (ps_i s1 1131 21))) 0) 1136 (Int32.toNatClampNeg ((1 : Int32) - (ps_i s1 1131 21)))).toInt + (ps_a (ps_ua (ps_ua (ps_ua (ps_ui s1 1131 22 ((1 : Int32) - (ps_i s1 1131 21))) 1135 (Int32.toNatClampNeg ((1 : Int32) - (ps_i s1 1131 21))) 0) 1136 (Int32.toNatClampNeg ((1 : Int32) - (ps_i s1 1131 21))) 0) 1137 (Int32.toNatClampNeg ((1 : Int32) - (ps_i s1 1131 21))) 0) 1137 (Int32.toNatClampNeg ((1 : Int32) - (ps_i s1 1131 21)))).toInt)) - (ps_i s1 1131 5).toInt ≤ (((2 * (20 - ((ps_a (ps_ua (ps_ui s1 1131 22 ((1 : Int32) - (ps_i s1 1131 21))) 1135 (Int32.toNatClampNeg ((1 : Int32) - (ps_i s1 1131 21))) 0) 1135 (Int32.toNatClampNeg ((1 : Int32) - (ps_i s1 1131 21)))).toInt + (ps_a (ps_ua (ps_ua (ps_ui s1 1131 22 ((1 : Int32) - (ps_i s1 1131 21))) 1135 (Int32.toNatClampNeg ((1 : Int32) - (ps_i s1 1131 21))) 0) 1136 (Int32.toNatClampNeg ((1 : Int32) - (ps_i s1 1131 21))) 0) 1136 (Int32.toNatClampNeg ((1 : Int32) - (ps_i s1 1131 21)))).toInt + (ps_a (ps_ua (ps_ua (ps_ua (ps_ui s1 1131 22 ((1 : Int32) - (ps_i s1 1131 21))) 1135 (Int32.toNatClampNeg ((1 : Int32) - (ps_i s1 1131 21))) 0) 1136 (Int32.toNatClampNeg ((1 : Int32) - (ps_i s1 1131 21))) 0) 1137 (Int32.toNatClampNeg ((1 : Int32) - (ps_i s1 1131 21))) 0) 1137 (Int32.toNatClampNeg ((1 : Int32) - (ps_i s1 1131 21)))).toInt)) - (ps_i s1 1131 5).toInt).toNat : Nat) : Int) from by omega)
end
section
theorem MI_box {σ : mSig} {g g' g5 g6 g7 g8 g9 ga gx gx' : Nat → Int32} {b st th i : Int} (h : MI σ g g5 g6 g7 g8 g9 ga gx b st th) (h40 : st ≤ 40) (h0 : 0 ≤ i) (ho : ∀ k : Nat, (k : Int) < 25830 + 492 * i ∨ 25830 + 492 * i + 492 ≤ (k : Int) → g' k = g k) (hx : ∀ j : Nat, (j : Int) ≠ i → gx' j = gx j) (hb : (gx' i.toNat).toInt = th) (hf : ∀ k : Nat, (k : Int) < th → k < 12 → Fm σ g' (25830 + 41 * (12 * i + k))) : MI σ g' g5 g6 g7 g8 g9 ga gx' b st th := by
  obtain ⟨h1, h2, h3, h4, h5, h6⟩ := h
  obtain ⟨b0, b1, -⟩ := id h1
  refine ⟨h1, PSt_keep h2 h40 (fun k hk => ho k (by omega)), fun k hk q => Fm_keep (h3 k hk q) (fun j _ _ => ho j (by omega)), fun k hk q => FmC_keep (h4 k hk q) (fun j _ _ => ho j (by omega)), ?_, fun j k q hk q2 => ?_⟩
  · rcases h5 with z | z
    · left; rw [ho 25748 (by omega)]; exact z
    · exact Or.inr (Fm_keep z (fun j _ _ => ho j (by omega)))
  · by_cases e : (j : Int) = i
    · have e2 : j = i.toNat := by omega
      rw [e2, hb] at hk
      rw [e]
      exact hf k hk q2
    · rw [hx j e] at hk
      exact Fm_keep (h6 j k q hk q2) (fun m _ _ => ho m (by omega))
theorem MI_back {σ : mSig} {g g' g5 g6 g7 g8 g9 ga gx : Nat → Int32} {b st st' th th' : Int} (h : MI σ g g5 g6 g7 g8 g9 ga gx b st th) (hs : st' ≤ st) (ho : ∀ k : Nat, (k : Int) < 21320 ∨ 21812 ≤ (k : Int) → g' k = g k) (h40 : st' ≤ 40) (hf : ∀ k : Nat, (k : Int) < th' → k < 12 → Fm σ g' (21320 + 41 * k)) : MI σ g' g5 g6 g7 g8 g9 ga gx b st' th' := by
  obtain ⟨h1, h2, h3, h4, h5, h6⟩ := h
  obtain ⟨b0, b1, -⟩ := id h1
  refine ⟨h1, PSt_keep (PSt_le h2 hs) h40 (fun k hk => ho k (by omega)), hf, fun k hk q => FmC_keep (h4 k hk q) (fun j _ _ => ho j (by omega)), ?_, fun i k q hk q2 => Fm_keep (h6 i k q hk q2) (fun j _ _ => ho j (by omega))⟩
  rcases h5 with z | z
  · left; rw [ho 25748 (by omega)]; exact z
  · exact Or.inr (Fm_keep z (fun j _ _ => ho j (by omega)))
theorem MI_keep1 {σ : mSig} {g g' g5 g6 g7 g8 g9 ga gx : Nat → Int32} {b st th th' a : Int} (h : MI σ g g5 g6 g7 g8 g9 ga gx b st th) (h40 : st ≤ 40) (h0 : 0 ≤ th) (h12 : th < 12) (ha : a = 21320 + 41 * th) (e : th' = th + 1) (ho : ∀ k : Nat, (k : Int) < a ∨ a + 41 ≤ (k : Int) → g' k = g k) (hf : Fm σ g' a) : MI σ g' g5 g6 g7 g8 g9 ga gx b st th' := by
  refine MI_back h (Int.le_refl _) (fun k hk => ho k (by omega)) h40 (fun k hk q => ?_)
  by_cases e2 : (k : Int) = th
  · rw [e2, ← ha]; exact hf
  · exact Fm_keep (h.2.2.1 k (by omega) q) (fun j _ _ => ho j (by omega))
theorem MI_th {σ : mSig} {g g5 g6 g7 g8 g9 ga gx : Nat → Int32} {b st th : Int} {k : Int32} {a : Int} (h : MI σ g g5 g6 g7 g8 g9 ga gx b st th) (h0 : 0 ≤ k.toInt) (hk : k.toInt < th) (h12 : th ≤ 12) (ha : a = 21320 + 41 * k.toInt) : Fm σ g a := by
  have := h.2.2.1 k.toInt.toNat (by omega) (by omega)
  rw [show ((k.toInt.toNat : Nat) : Int) = k.toInt from by omega] at this
  rw [ha]; exact this
theorem MI_bx {σ : mSig} {g g5 g6 g7 g8 g9 ga gx : Nat → Int32} {b st th : Int} {i k : Int32} {a : Int} (h : MI σ g g5 g6 g7 g8 g9 ga gx b st th) (hi : 0 ≤ i.toInt) (h3 : i.toInt < 3) (h0 : 0 ≤ k.toInt) (hk : k.toInt < (gx (i.toInt.toNat)).toInt) (h12 : k.toInt < 12) (ha : a = 25830 + 41 * (12 * i.toInt + k.toInt)) : Fm σ g a := by
  have := h.2.2.2.2.2 i.toInt.toNat k.toInt.toNat (by omega) (by omega) (by omega)
  rw [show ((k.toInt.toNat : Nat) : Int) = k.toInt from by omega, show ((i.toInt.toNat : Nat) : Int) = i.toInt from by omega] at this
  rw [ha]; exact this
theorem MI_step {σ : mSig} {g g5 g6 g7 g8 g9 ga gx : Nat → Int32} {b st th : Int} {i a : Int} (h : MI σ g g5 g6 g7 g8 g9 ga gx b st th) (h0 : 0 ≤ i) (hi : i < st) (ha : a = 41 * i) : Fm σ g a := by
  have := (h.2.1 i.toNat (by omega)).1
  rw [show ((i.toNat : Nat) : Int) = i from by omega] at this
  rw [ha]; exact this
theorem Fm_put {σ : mSig} {g g' : Nat → Int32} {n : Int} {f : Nat → Int} (h : ∀ k : Nat, (k : Int) < n → k < 12 → Fm σ g (f k)) (h0 : 0 ≤ n) (hf : Fm σ g' (f n.toNat)) (ho : ∀ k : Nat, (k : Int) < n → k < 12 → ∀ j : Nat, f k ≤ (j : Int) → (j : Int) < f k + 41 → g' j = g j) : ∀ k : Nat, (k : Int) < n + 1 → k < 12 → Fm σ g' (f k) := by
  intro k hk q
  by_cases e : (k : Int) = n
  · have e2 : k = n.toNat := by omega
    rw [e2]; exact hf
  · exact Fm_keep (h k (by omega) q) (ho k (by omega) q)
theorem MI_kp {σ : mSig} {A F : List Nat} {s s' : ps_S} (h : MI σ (ps_a s 1134) (ps_a s 1135) (ps_a s 1136) (ps_a s 1137) (ps_a s 1138) (ps_a s 1139) (ps_a s 1157) (ps_a s 1176) (ps_i s 1131 21).toInt (ps_i s 1131 47).toInt (ps_i s 1131 54).toInt) (K : kp A F s s') (a1134 : A.contains 1134 = false) (a1135 : A.contains 1135 = false) (a1136 : A.contains 1136 = false) (a1137 : A.contains 1137 = false) (a1138 : A.contains 1138 = false) (a1139 : A.contains 1139 = false) (a1157 : A.contains 1157 = false) (a1176 : A.contains 1176 = false) (f21 : F.contains 21 = false) (f47 : F.contains 47 = false) (f54 : F.contains 54 = false) : MI σ (ps_a s' 1134) (ps_a s' 1135) (ps_a s' 1136) (ps_a s' 1137) (ps_a s' 1138) (ps_a s' 1139) (ps_a s' 1157) (ps_a s' 1176) (ps_i s' 1131 21).toInt (ps_i s' 1131 47).toInt (ps_i s' 1131 54).toInt := by
  rw [(K.2 1134 a1134).1, (K.2 1135 a1135).1, (K.2 1136 a1136).1, (K.2 1137 a1137).1, (K.2 1138 a1138).1, (K.2 1139 a1139).1, (K.2 1157 a1157).1, (K.2 1176 a1176).1, kp_i K 21 f21, kp_i K 47 f47, kp_i K 54 f54]
  exact h
end
section
set_option maxRecDepth 100000
-- ProofBenchModel.noProof()V
theorem pg_272_0 {d : Nat} {s : ps_S} {Q : Option Value → ps_S → Prop} (h :
  Q none (ps_ui (ps_ui (ps_ui s 1131 47 0) 1131 48 (-1)) 1131 49 (-1))) : ps_At d 272 0 [(0, .ref 1131)] [] s Q :=
  ps_wp_at (stops := []) (n := 12) h rfl

-- ProofBenchModel.image(I)I
theorem pg_305_0 {d : Nat} {x1 : Int32} {s : ps_S} {Q : Option Value → ps_S → Prop} (h :
  ps_Cl d 200 [.int x1, .int 0, .int 2] s (ps_rI (fun v1 s1 =>
    (v1 ≠ 0 →
      ps_nd (pm_in x1 3) (ps_At (d + 1) 305 23 [(0, .ref 1131), (1, .int x1), (2, .int 0)] [] (ps_ua s1 1176 (Int32.toNatClampNeg x1) (ps_i s1 1131 54)) Q)) ∧
    (v1 = 0 →
      Q (some (.int (-1))) s1)))) : ps_At (d + 1) 305 0 [(0, .ref 1131), (1, .int x1)] [] s Q :=
  ps_wp_at (stops := [(23, [0, 1, 2])]) (n := 17) h rfl

theorem pg_305_23 {d : Nat} {x1 : Int32} {x2 : Int32} {s : ps_S} {Q : Option Value → ps_S → Prop} (h :
  ((ps_i s 1131 54) ≤ x2 →
    Q (some (.int (ps_i s 1131 54))) s) ∧
  (x2 < (ps_i s 1131 54) →
    ps_Cl d 224 [.ref 1131, .int ((21320 : Int32) + ((41 : Int32) * x2)), .int ((25830 : Int32) + ((41 : Int32) * (((12 : Int32) * x1) + x2)))] s (ps_rV (fun s1 =>
      ps_nd (pm_in x2 12) (ps_nd (pm_in (((12 : Int32) * x1) + x2) 36) (ps_nd (pm_in x2 12) (ps_nd (pm_in (((12 : Int32) * x1) + x2) 36) (ps_At (d + 1) 305 23 [(0, .ref 1131), (1, .int x1), (2, .int (x2 + 1))] [] (ps_ua (ps_ua s1 1177 (Int32.toNatClampNeg (((12 : Int32) * x1) + x2)) (ps_a s1 1161 (Int32.toNatClampNeg x2))) 1178 (Int32.toNatClampNeg (((12 : Int32) * x1) + x2)) (ps_a (ps_ua s1 1177 (Int32.toNatClampNeg (((12 : Int32) * x1) + x2)) (ps_a s1 1161 (Int32.toNatClampNeg x2))) 1162 (Int32.toNatClampNeg x2))) Q)))))))) : ps_At (d + 1) 305 23 [(0, .ref 1131), (1, .int x1), (2, .int x2)] [] s Q :=
  ps_wp_at (stops := [(23, [0, 1, 2])]) (n := 51) h rfl

theorem ms_305_23 {x : Nat → Nat → Nat} {t : Int32} {d : Nat} {s0 : ps_S} {σ : mSig} {x1 : Int32} {Q : Option Value → ps_S → Prop} (k : ∀ (v : Int32) (s' : ps_S), mJ x t s' → kp [1134, 1176, 1177, 1178] [] s0 s' → (MI σ (ps_a s' 1134) (ps_a s' 1135) (ps_a s' 1136) (ps_a s' 1137) (ps_a s' 1138) (ps_a s' 1139) (ps_a s' 1157) (ps_a s' 1176) (ps_i s' 1131 21).toInt (ps_i s' 1131 47).toInt (ps_i s' 1131 54).toInt) → Q (some (.int v)) s') : ∀ (n : Nat) (x2 : Int32) (g0 : Nat → Int32) (gx : Nat → Int32) (s : ps_S), (mJ x t s) → (kp [1134, 1176, 1177, 1178] [] s0 s) → (MI σ g0 (ps_a s 1135) (ps_a s 1136) (ps_a s 1137) (ps_a s 1138) (ps_a s 1139) (ps_a s 1157) gx (ps_i s 1131 21).toInt (ps_i s 1131 47).toInt (ps_i s 1131 54).toInt) → (∀ k : Nat, (k : Int) < 25830 + 492 * x1.toInt ∨ 25830 + 492 * x1.toInt + 492 ≤ (k : Int) → ps_a s 1134 k = g0 k) → (∀ j : Nat, (j : Int) ≠ x1.toInt → ps_a s 1176 j = gx j) → ((ps_a s 1176 x1.toInt.toNat).toInt = (ps_i s 1131 54).toInt) → (∀ k : Nat, (k : Int) < x2.toInt → k < 12 → Fm σ (ps_a s 1134) (25830 + 41 * (12 * x1.toInt + k))) → (0 ≤ x1.toInt) → (x1.toInt ≤ 2) → (0 ≤ x2.toInt) → (x2.toInt ≤ (ps_i s 1131 54).toInt) → ((ps_i s 1131 47).toInt ≤ 40) → 20 - x2.toInt ≤ (n : Int) → ps_At (d + 1) 305 23 [(0, .ref 1131), (1, .int x1), (2, .int x2)] [] s Q := by
  refine xstr (fun n ih => ?_)
  intro x2 g0 gx s J K hM0 hof hgx hgb i4 i5 i6 i7 i8 i9 hm
  have r1 := mf_54 J
  have r2 := mf_47 J
  refine pg_305_23 (d := d) ?_
  refine And.intro (fun h3 => ?_) (fun h3 => ?_)
  · have f4 : (ps_i s 1131 54).toInt ≤ x2.toInt := xle h3
    exact k (ps_i s 1131 54) _ J K (MI_box hM0 (show (ps_i s 1131 47).toInt ≤ 40 from by omega) (show 0 ≤ x1.toInt from by omega) hof hgx hgb (fun k hk q => i4 k (by omega) q))
  · have f5 : x2.toInt < (ps_i s 1131 54).toInt := xlt h3
    have a6 : ((41 : Int32) * x2).toInt = (41 : Int) * x2.toInt := xIm (show -2147483648 ≤ (41 : Int) * x2.toInt from by omega) (show (41 : Int) * x2.toInt < 2147483648 from by omega)
    have a7 : ((21320 : Int32) + ((41 : Int32) * x2)).toInt = (21320 : Int) + ((41 : Int32) * x2).toInt := xIa (show -2147483648 ≤ (21320 : Int) + ((41 : Int32) * x2).toInt from by omega) (show (21320 : Int) + ((41 : Int32) * x2).toInt < 2147483648 from by omega)
    have a8 : ((12 : Int32) * x1).toInt = (12 : Int) * x1.toInt := xIm (show -2147483648 ≤ (12 : Int) * x1.toInt from by omega) (show (12 : Int) * x1.toInt < 2147483648 from by omega)
    have a9 : (((12 : Int32) * x1) + x2).toInt = ((12 : Int32) * x1).toInt + x2.toInt := xIa (show -2147483648 ≤ ((12 : Int32) * x1).toInt + x2.toInt from by omega) (show ((12 : Int32) * x1).toInt + x2.toInt < 2147483648 from by omega)
    have a10 : ((41 : Int32) * (((12 : Int32) * x1) + x2)).toInt = (41 : Int) * (((12 : Int32) * x1) + x2).toInt := xIm (show -2147483648 ≤ (41 : Int) * (((12 : Int32) * x1) + x2).toInt from by omega) (show (41 : Int) * (((12 : Int32) * x1) + x2).toInt < 2147483648 from by omega)
    have a11 : ((25830 : Int32) + ((41 : Int32) * (((12 : Int32) * x1) + x2))).toInt = (25830 : Int) + ((41 : Int32) * (((12 : Int32) * x1) + x2)).toInt := xIa (show -2147483648 ≤ (25830 : Int) + ((41 : Int32) * (((12 : Int32) * x1) + x2)).toInt from by omega) (show (25830 : Int) + ((41 : Int32) * (((12 : Int32) * x1) + x2)).toInt < 2147483648 from by omega)
    obtain ⟨l, hl1, hl2⟩ : Fm σ (ps_a s 1134) ((21320 : Int32) + ((41 : Int32) * x2)).toInt := Fm_keep (MI_th (k := x2) hM0 (by omega) (by omega) (by omega) (by omega)) (fun j h1 h2 => hof j (by omega))
    refine ms_224 J (hl1) (show ((25830 : Int32) + ((41 : Int32) * (((12 : Int32) * x1) + x2))).toInt % 41 = 0 from by omega) (show 0 ≤ ((25830 : Int32) + ((41 : Int32) * (((12 : Int32) * x1) + x2))).toInt from by omega) (show ((25830 : Int32) + ((41 : Int32) * (((12 : Int32) * x1) + x2))).toInt < 27306 from by omega) (show ((21320 : Int32) + ((41 : Int32) * x2)).toInt ≠ ((25830 : Int32) + ((41 : Int32) * (((12 : Int32) * x1) + x2))).toInt from by omega) (fun s12 J12 K12 p12_0 p12_1 => ?_)
    have K13 := kpt K K12 rfl rfl
    have hM0 : MI σ g0 (ps_a s12 1135) (ps_a s12 1136) (ps_a s12 1137) (ps_a s12 1138) (ps_a s12 1139) (ps_a s12 1157) gx (ps_i s12 1131 21).toInt (ps_i s12 1131 47).toInt (ps_i s12 1131 54).toInt := by rw [show ps_a s12 1135 = ps_a s 1135 from (K12.2 1135 rfl).1, show ps_a s12 1136 = ps_a s 1136 from (K12.2 1136 rfl).1, show ps_a s12 1137 = ps_a s 1137 from (K12.2 1137 rfl).1, show ps_a s12 1138 = ps_a s 1138 from (K12.2 1138 rfl).1, show ps_a s12 1139 = ps_a s 1139 from (K12.2 1139 rfl).1, show ps_a s12 1157 = ps_a s 1157 from (K12.2 1157 rfl).1, show ps_i s12 1131 21 = ps_i s 1131 21 from kp_i K12 21 rfl, show ps_i s12 1131 47 = ps_i s 1131 47 from kp_i K12 47 rfl, show ps_i s12 1131 54 = ps_i s 1131 54 from kp_i K12 54 rfl]; exact hM0
    have hgx : ∀ j : Nat, (j : Int) ≠ x1.toInt → ps_a s12 1176 j = gx j := by rw [show ps_a s12 1176 = ps_a s 1176 from (K12.2 1176 rfl).1]; exact hgx
    have hgb : (ps_a s12 1176 x1.toInt.toNat).toInt = (ps_i s12 1131 54).toInt := by rw [show ps_a s12 1176 = ps_a s 1176 from (K12.2 1176 rfl).1, show ps_i s12 1131 54 = ps_i s 1131 54 from kp_i K12 54 rfl]; exact hgb
    have hc : _ := p12_0
    have ho : _ := p12_1
    refine ps_nd_i (show pm_in x2 12 = true from xgi (show 0 ≤ x2.toInt from by omega) (show x2.toInt < 12 from by omega)) ?_
    have u14 : (ps_a s12 1161 (Int32.toNatClampNeg x2)).toInt = (ps_a s 1161 (Int32.toNatClampNeg x2)).toInt := xeq (kp_a K12 1161 rfl _)
    refine ps_nd_i (show pm_in (((12 : Int32) * x1) + x2) 36 = true from xgi (show 0 ≤ (((12 : Int32) * x1) + x2).toInt from by omega) (show (((12 : Int32) * x1) + x2).toInt < 36 from by omega)) ?_
    have J15 := mwa_n 1177 (i := (Int32.toNatClampNeg (((12 : Int32) * x1) + x2))) (v := (ps_a s12 1161 (Int32.toNatClampNeg x2))) J12 rfl (by decide)
    have K16 := kpa' K13 (r := 1177) (i := (Int32.toNatClampNeg (((12 : Int32) * x1) + x2))) (v := (ps_a s12 1161 (Int32.toNatClampNeg x2))) rfl
    refine ps_nd_i (show pm_in x2 12 = true from xgi (show 0 ≤ x2.toInt from by omega) (show x2.toInt < 12 from by omega)) ?_
    have u17 : (ps_a s12 1162 (Int32.toNatClampNeg x2)).toInt = (ps_a s 1162 (Int32.toNatClampNeg x2)).toInt := xeq (kp_a K12 1162 rfl _)
    refine ps_nd_i (show pm_in (((12 : Int32) * x1) + x2) 36 = true from xgi (show 0 ≤ (((12 : Int32) * x1) + x2).toInt from by omega) (show (((12 : Int32) * x1) + x2).toInt < 36 from by omega)) ?_
    have J18 := mwa_n 1178 (i := (Int32.toNatClampNeg (((12 : Int32) * x1) + x2))) (v := (ps_a s12 1162 (Int32.toNatClampNeg x2))) J15 rfl (by decide)
    have K19 := kpa' K16 (r := 1178) (i := (Int32.toNatClampNeg (((12 : Int32) * x1) + x2))) (v := (ps_a s12 1162 (Int32.toNatClampNeg x2))) rfl
    have a20 : (x2 + 1).toInt = x2.toInt + (1 : Int) := xIa (show -2147483648 ≤ x2.toInt + (1 : Int) from by omega) (show x2.toInt + (1 : Int) < 2147483648 from by omega)
    have r21 := mf_54 J12
    have u22 : (ps_i s12 1131 54).toInt = (ps_i s 1131 54).toInt := xeq (kp_i K12 54 rfl)
    have r23 := mf_47 J12
    have u24 : (ps_i s12 1131 47).toInt = (ps_i s 1131 47).toInt := xeq (kp_i K12 47 rfl)
    exact ih (n - 1) (show n - 1 < n from by omega) (x2 + 1) g0 gx _ J18 K19 hM0 (fun k hk => (ho k (by omega)).trans (hof k hk)) hgx hgb ((by rw [show ((x2 + 1)).toInt = x2.toInt + 1 from by omega]; exact Fm_put (f := fun k => 25830 + 41 * (12 * x1.toInt + (k : Int))) i4 (by omega) (show Fm σ (ps_a s12 1134) (25830 + 41 * (12 * x1.toInt + ((x2.toInt.toNat : Nat) : Int))) from (by rw [show 25830 + 41 * (12 * x1.toInt + ((x2.toInt.toNat : Nat) : Int)) = ((25830 : Int32) + ((41 : Int32) * (((12 : Int32) * x1) + x2))).toInt from by omega]; exact ⟨l, hc, hl2⟩)) (fun k h1 h2 j h3 h4 => ho j (by have h3 : 25830 + 41 * (12 * x1.toInt + (k : Int)) ≤ (j : Int) := h3; have h4 : (j : Int) < 25830 + 41 * (12 * x1.toInt + (k : Int)) + 41 := h4; omega)))) (show 0 ≤ x1.toInt from by omega) (show x1.toInt ≤ 2 from by omega) (show 0 ≤ (x2 + 1).toInt from by omega) (show (x2 + 1).toInt ≤ (ps_i s12 1131 54).toInt from by omega) (show (ps_i s12 1131 47).toInt ≤ 40 from by omega) (show 20 - (x2 + 1).toInt ≤ ((n - 1 : Nat) : Int) from by omega)

theorem ms_305 {x : Nat → Nat → Nat} {t : Int32} {s : ps_S} {d : Nat} {x1 : Int32} {f : Int32 → ps_S → Prop} (J : mJ x t s) {σ : mSig} (hMI : MI σ (ps_a s 1134) (ps_a s 1135) (ps_a s 1136) (ps_a s 1137) (ps_a s 1138) (ps_a s 1139) (ps_a s 1157) (ps_a s 1176) (ps_i s 1131 21).toInt (ps_i s 1131 47).toInt (ps_i s 1131 54).toInt) (k : ∀ (v : Int32) (s' : ps_S), mJ x t s' → kp [1134, 1176, 1177, 1178] [] s s' → (MI σ (ps_a s' 1134) (ps_a s' 1135) (ps_a s' 1136) (ps_a s' 1137) (ps_a s' 1138) (ps_a s' 1139) (ps_a s' 1157) (ps_a s' 1176) (ps_i s' 1131 21).toInt (ps_i s' 1131 47).toInt (ps_i s' 1131 54).toInt) → f v s') : ps_Cl (d + 1) 305 [.ref 1131, .int x1] s (ps_rI f) := by
  have K : kp [1134, 1176, 1177, 1178] [] s s := kp_refl
  refine pg_305_0 (d := d) ?_
  refine ms_200 J  (fun v1 p1_0 b1 => ?_)
  have p1_0' : v1.toInt = 0 ∨ ((0 : Int) ≤ x1.toInt ∧ x1.toInt ≤ (2 : Int)) := p1_0
  refine And.intro (fun h2 => ?_) (fun h2 => ?_)
  · have f3 : v1.toInt ≠ (0 : Int) := xne h2
    have r4 := mf_54 J
    obtain ⟨g0, hg0⟩ : ∃ g0 : Nat → Int32, g0 = ps_a s 1134 := ⟨_, rfl⟩
    obtain ⟨gx, hgx0⟩ : ∃ gx : Nat → Int32, gx = ps_a s 1176 := ⟨_, rfl⟩
    have hM0 : MI σ g0 (ps_a s 1135) (ps_a s 1136) (ps_a s 1137) (ps_a s 1138) (ps_a s 1139) (ps_a s 1157) gx (ps_i s 1131 21).toInt (ps_i s 1131 47).toInt (ps_i s 1131 54).toInt := by rw [hg0, hgx0]; exact hMI
    refine ps_nd_i (show pm_in x1 3 = true from xgi (show 0 ≤ x1.toInt from by omega) (show x1.toInt < 3 from by omega)) ?_
    have J5 := mwa_1176 (i := (Int32.toNatClampNeg x1)) (v := (ps_i s 1131 54)) J (show -1 ≤ (ps_i s 1131 54).toInt from by omega) (show (ps_i s 1131 54).toInt ≤ 12 from by omega)
    have K6 := kpa' K (r := 1176) (i := (Int32.toNatClampNeg x1)) (v := (ps_i s 1131 54)) rfl
    have ex : Int32.toNatClampNeg x1 = x1.toInt.toNat := rfl
    have hof : ∀ k : Nat, (k : Int) < 25830 + 492 * x1.toInt ∨ 25830 + 492 * x1.toInt + 492 ≤ (k : Int) → ps_a (ps_ua s 1176 (Int32.toNatClampNeg x1) (ps_i s 1131 54)) 1134 k = g0 k := fun k _ => (congrFun hg0 k).symm
    have hgx : ∀ j : Nat, (j : Int) ≠ x1.toInt → ps_a (ps_ua s 1176 (Int32.toNatClampNeg x1) (ps_i s 1131 54)) 1176 j = gx j := fun j hj => (ua_ne (by omega)).trans (congrFun hgx0 j).symm
    have hgb : (ps_a (ps_ua s 1176 (Int32.toNatClampNeg x1) (ps_i s 1131 54)) 1176 x1.toInt.toNat).toInt = (ps_i (ps_ua s 1176 (Int32.toNatClampNeg x1) (ps_i s 1131 54)) 1131 54).toInt := congrArg Int32.toInt ua_eq
    have r7 := mf_47 J
    exact ms_305_23 (x1 := x1) (σ := σ) k  (20 - (0 : Int)).toNat (0) g0 gx _ J5 K6 hM0 hof hgx hgb (fun k hk => absurd hk (by rw [Int32.toInt_zero]; omega)) (show 0 ≤ x1.toInt from by omega) (show x1.toInt ≤ 2 from by omega) (show 0 ≤ (0 : Int) from by omega) (show (0 : Int) ≤ (ps_i s 1131 54).toInt from by omega) (show (ps_i s 1131 47).toInt ≤ 40 from by omega) (show 20 - (0 : Int) ≤ (((20 - (0 : Int)).toNat : Nat) : Int) from by omega)
  · have f8 : v1.toInt = (0 : Int) := xeq h2
    exact k (-1 : Int32) _ J K (hMI)

-- ProofBenchModel.back(I)I
theorem pg_306_0 {d : Nat} {x1 : Int32} {s : ps_S} {Q : Option Value → ps_S → Prop} (h :
  ps_Cl d 200 [.int x1, .int 0, .int 2] s (ps_rI (fun v1 s1 =>
    (v1 = 0 →
      Q (some (.int (-1))) s1) ∧
    (v1 ≠ 0 →
      ps_nd (pm_in x1 3) ((0 ≤ (ps_a s1 1176 (Int32.toNatClampNeg x1)) →
        ps_nd (pm_in x1 3) (ps_At (d + 1) 306 32 [(0, .ref 1131), (1, .int x1), (2, .int 0)] [] (ps_ui s1 1131 54 (ps_a s1 1176 (Int32.toNatClampNeg x1))) Q)) ∧
      ((ps_a s1 1176 (Int32.toNatClampNeg x1)) < 0 →
        Q (some (.int (-1))) s1)))))) : ps_At (d + 1) 306 0 [(0, .ref 1131), (1, .int x1)] [] s Q :=
  ps_wp_at (stops := [(32, [0, 1, 2])]) (n := 24) h rfl

theorem pg_306_32 {d : Nat} {x1 : Int32} {x2 : Int32} {s : ps_S} {Q : Option Value → ps_S → Prop} (h :
  ((ps_i s 1131 54) ≤ x2 →
    ps_Cl d 272 [.ref 1131] s (ps_rV (fun s1 =>
      Q (some (.int (ps_i s1 1131 54))) s1))) ∧
  (x2 < (ps_i s 1131 54) →
    ps_Cl d 224 [.ref 1131, .int ((25830 : Int32) + ((41 : Int32) * (((12 : Int32) * x1) + x2))), .int ((21320 : Int32) + ((41 : Int32) * x2))] s (ps_rV (fun s2 =>
      ps_nd (pm_in (((12 : Int32) * x1) + x2) 36) (ps_nd (pm_in x2 12) (ps_nd (pm_in (((12 : Int32) * x1) + x2) 36) (ps_nd (pm_in x2 12) (ps_At (d + 1) 306 32 [(0, .ref 1131), (1, .int x1), (2, .int (x2 + 1))] [] (ps_ua (ps_ua s2 1161 (Int32.toNatClampNeg x2) (ps_a s2 1177 (Int32.toNatClampNeg (((12 : Int32) * x1) + x2)))) 1162 (Int32.toNatClampNeg x2) (ps_a (ps_ua s2 1161 (Int32.toNatClampNeg x2) (ps_a s2 1177 (Int32.toNatClampNeg (((12 : Int32) * x1) + x2)))) 1178 (Int32.toNatClampNeg (((12 : Int32) * x1) + x2)))) Q)))))))) : ps_At (d + 1) 306 32 [(0, .ref 1131), (1, .int x1), (2, .int x2)] [] s Q :=
  ps_wp_at (stops := [(32, [0, 1, 2])]) (n := 53) h rfl

theorem ms_306_32 {x : Nat → Nat → Nat} {t : Int32} {d : Nat} {s0 : ps_S} {σ : mSig} {x1 : Int32} {Q : Option Value → ps_S → Prop} (k : ∀ (v : Int32) (s' : ps_S), mJ x t s' → kp [1134, 1161, 1162] [47, 48, 49, 54] s0 s' → (MI σ (ps_a s' 1134) (ps_a s' 1135) (ps_a s' 1136) (ps_a s' 1137) (ps_a s' 1138) (ps_a s' 1139) (ps_a s' 1157) (ps_a s' 1176) (ps_i s' 1131 21).toInt (ps_i s' 1131 47).toInt (ps_i s' 1131 54).toInt) → Q (some (.int v)) s') : ∀ (n : Nat) (x2 : Int32) (g0 : Nat → Int32) (th0 : Int) (s : ps_S), (mJ x t s) → (kp [1134, 1161, 1162] [47, 48, 49, 54] s0 s) → (MI σ g0 (ps_a s 1135) (ps_a s 1136) (ps_a s 1137) (ps_a s 1138) (ps_a s 1139) (ps_a s 1157) (ps_a s 1176) (ps_i s 1131 21).toInt (ps_i s 1131 47).toInt th0) → (∀ k : Nat, (k : Int) < 21320 ∨ 21812 ≤ (k : Int) → ps_a s 1134 k = g0 k) → ((ps_a s 1176 x1.toInt.toNat).toInt = (ps_i s 1131 54).toInt) → (∀ k : Nat, (k : Int) < x2.toInt → k < 12 → Fm σ (ps_a s 1134) (21320 + 41 * k)) → (0 ≤ x1.toInt) → (x1.toInt ≤ 2) → (0 ≤ x2.toInt) → (x2.toInt ≤ (ps_i s 1131 54).toInt) → 20 - x2.toInt ≤ (n : Int) → ps_At (d + 1) 306 32 [(0, .ref 1131), (1, .int x1), (2, .int x2)] [] s Q := by
  refine xstr (fun n ih => ?_)
  intro x2 g0 th0 s J K hM0 hof hgb i3 i4 i5 i6 i7 hm
  have r1 := mf_54 J
  refine pg_306_32 (d := d) ?_
  refine And.intro (fun h2 => ?_) (fun h2 => ?_)
  · have f3 : (ps_i s 1131 54).toInt ≤ x2.toInt := xle h2
    refine pg_272_0 ?_
    have J4 := mwi_47 (v := (0 : Int32)) J (show 0 ≤ (0 : Int) from by omega) (show (0 : Int) ≤ 40 from by omega)
    have K5 := kpi K (q := 47) (v := (0 : Int32)) rfl
    have J6 := mwi_48 (v := (-1 : Int32)) J4 (show -1 ≤ (-1 : Int) from by omega) (show (-1 : Int) ≤ 40 from by omega)
    have K7 := kpi K5 (q := 48) (v := (-1 : Int32)) rfl
    have J8 := mwi_n 49 (v := (-1 : Int32)) J6 rfl
    have K9 := kpi K7 (q := 49) (v := (-1 : Int32)) rfl
    exact k (ps_i s 1131 54) _ J8 K9 (MI_back hM0 (mf_47 J).1 hof (show (0 : Int) ≤ 40 from by decide) (fun k hk q => i3 k (by have hk : (k : Int) < (ps_i s 1131 54).toInt := hk; omega) q))
  · have f10 : x2.toInt < (ps_i s 1131 54).toInt := xlt h2
    have a11 : ((12 : Int32) * x1).toInt = (12 : Int) * x1.toInt := xIm (show -2147483648 ≤ (12 : Int) * x1.toInt from by omega) (show (12 : Int) * x1.toInt < 2147483648 from by omega)
    have a12 : (((12 : Int32) * x1) + x2).toInt = ((12 : Int32) * x1).toInt + x2.toInt := xIa (show -2147483648 ≤ ((12 : Int32) * x1).toInt + x2.toInt from by omega) (show ((12 : Int32) * x1).toInt + x2.toInt < 2147483648 from by omega)
    have a13 : ((41 : Int32) * (((12 : Int32) * x1) + x2)).toInt = (41 : Int) * (((12 : Int32) * x1) + x2).toInt := xIm (show -2147483648 ≤ (41 : Int) * (((12 : Int32) * x1) + x2).toInt from by omega) (show (41 : Int) * (((12 : Int32) * x1) + x2).toInt < 2147483648 from by omega)
    have a14 : ((25830 : Int32) + ((41 : Int32) * (((12 : Int32) * x1) + x2))).toInt = (25830 : Int) + ((41 : Int32) * (((12 : Int32) * x1) + x2)).toInt := xIa (show -2147483648 ≤ (25830 : Int) + ((41 : Int32) * (((12 : Int32) * x1) + x2)).toInt from by omega) (show (25830 : Int) + ((41 : Int32) * (((12 : Int32) * x1) + x2)).toInt < 2147483648 from by omega)
    have a15 : ((41 : Int32) * x2).toInt = (41 : Int) * x2.toInt := xIm (show -2147483648 ≤ (41 : Int) * x2.toInt from by omega) (show (41 : Int) * x2.toInt < 2147483648 from by omega)
    have a16 : ((21320 : Int32) + ((41 : Int32) * x2)).toInt = (21320 : Int) + ((41 : Int32) * x2).toInt := xIa (show -2147483648 ≤ (21320 : Int) + ((41 : Int32) * x2).toInt from by omega) (show (21320 : Int) + ((41 : Int32) * x2).toInt < 2147483648 from by omega)
    have hgb2 : (ps_a s 1176 x1.toInt.toNat).toInt = (ps_i s 1131 54).toInt := hgb
    obtain ⟨l, hl1, hl2⟩ : Fm σ (ps_a s 1134) ((25830 : Int32) + ((41 : Int32) * (((12 : Int32) * x1) + x2))).toInt := Fm_keep (MI_bx (i := x1) (k := x2) hM0 (by omega) (by omega) (by omega) (by omega) (by omega) (by omega)) (fun j h1 h2 => hof j (by omega))
    refine ms_224 J (hl1) (show ((21320 : Int32) + ((41 : Int32) * x2)).toInt % 41 = 0 from by omega) (show 0 ≤ ((21320 : Int32) + ((41 : Int32) * x2)).toInt from by omega) (show ((21320 : Int32) + ((41 : Int32) * x2)).toInt < 27306 from by omega) (show ((25830 : Int32) + ((41 : Int32) * (((12 : Int32) * x1) + x2))).toInt ≠ ((21320 : Int32) + ((41 : Int32) * x2)).toInt from by omega) (fun s17 J17 K17 p17_0 p17_1 => ?_)
    have K18 := kpt K K17 rfl rfl
    have hM0 : MI σ g0 (ps_a s17 1135) (ps_a s17 1136) (ps_a s17 1137) (ps_a s17 1138) (ps_a s17 1139) (ps_a s17 1157) (ps_a s17 1176) (ps_i s17 1131 21).toInt (ps_i s17 1131 47).toInt th0 := by rw [show ps_a s17 1135 = ps_a s 1135 from (K17.2 1135 rfl).1, show ps_a s17 1136 = ps_a s 1136 from (K17.2 1136 rfl).1, show ps_a s17 1137 = ps_a s 1137 from (K17.2 1137 rfl).1, show ps_a s17 1138 = ps_a s 1138 from (K17.2 1138 rfl).1, show ps_a s17 1139 = ps_a s 1139 from (K17.2 1139 rfl).1, show ps_a s17 1157 = ps_a s 1157 from (K17.2 1157 rfl).1, show ps_a s17 1176 = ps_a s 1176 from (K17.2 1176 rfl).1, show ps_i s17 1131 21 = ps_i s 1131 21 from kp_i K17 21 rfl, show ps_i s17 1131 47 = ps_i s 1131 47 from kp_i K17 47 rfl]; exact hM0
    have hgb : (ps_a s17 1176 x1.toInt.toNat).toInt = (ps_i s17 1131 54).toInt := by rw [show ps_a s17 1176 = ps_a s 1176 from (K17.2 1176 rfl).1, show ps_i s17 1131 54 = ps_i s 1131 54 from kp_i K17 54 rfl]; exact hgb
    have hc : _ := p17_0
    have ho : _ := p17_1
    refine ps_nd_i (show pm_in (((12 : Int32) * x1) + x2) 36 = true from xgi (show 0 ≤ (((12 : Int32) * x1) + x2).toInt from by omega) (show (((12 : Int32) * x1) + x2).toInt < 36 from by omega)) ?_
    have u19 : (ps_a s17 1177 (Int32.toNatClampNeg (((12 : Int32) * x1) + x2))).toInt = (ps_a s 1177 (Int32.toNatClampNeg (((12 : Int32) * x1) + x2))).toInt := xeq (kp_a K17 1177 rfl _)
    refine ps_nd_i (show pm_in x2 12 = true from xgi (show 0 ≤ x2.toInt from by omega) (show x2.toInt < 12 from by omega)) ?_
    have J20 := mwa_n 1161 (i := (Int32.toNatClampNeg x2)) (v := (ps_a s17 1177 (Int32.toNatClampNeg (((12 : Int32) * x1) + x2)))) J17 rfl (by decide)
    have K21 := kpa' K18 (r := 1161) (i := (Int32.toNatClampNeg x2)) (v := (ps_a s17 1177 (Int32.toNatClampNeg (((12 : Int32) * x1) + x2)))) rfl
    refine ps_nd_i (show pm_in (((12 : Int32) * x1) + x2) 36 = true from xgi (show 0 ≤ (((12 : Int32) * x1) + x2).toInt from by omega) (show (((12 : Int32) * x1) + x2).toInt < 36 from by omega)) ?_
    have u22 : (ps_a s17 1178 (Int32.toNatClampNeg (((12 : Int32) * x1) + x2))).toInt = (ps_a s 1178 (Int32.toNatClampNeg (((12 : Int32) * x1) + x2))).toInt := xeq (kp_a K17 1178 rfl _)
    refine ps_nd_i (show pm_in x2 12 = true from xgi (show 0 ≤ x2.toInt from by omega) (show x2.toInt < 12 from by omega)) ?_
    have J23 := mwa_n 1162 (i := (Int32.toNatClampNeg x2)) (v := (ps_a s17 1178 (Int32.toNatClampNeg (((12 : Int32) * x1) + x2)))) J20 rfl (by decide)
    have K24 := kpa' K21 (r := 1162) (i := (Int32.toNatClampNeg x2)) (v := (ps_a s17 1178 (Int32.toNatClampNeg (((12 : Int32) * x1) + x2)))) rfl
    have a25 : (x2 + 1).toInt = x2.toInt + (1 : Int) := xIa (show -2147483648 ≤ x2.toInt + (1 : Int) from by omega) (show x2.toInt + (1 : Int) < 2147483648 from by omega)
    have r26 := mf_54 J17
    have u27 : (ps_i s17 1131 54).toInt = (ps_i s 1131 54).toInt := xeq (kp_i K17 54 rfl)
    exact ih (n - 1) (show n - 1 < n from by omega) (x2 + 1) g0 th0 _ J23 K24 hM0 (fun k hk => (ho k (by omega)).trans (hof k hk)) hgb ((by rw [show ((x2 + 1)).toInt = x2.toInt + 1 from by omega]; exact Fm_put (f := fun k => 21320 + 41 * (k : Int)) i3 (by omega) (show Fm σ (ps_a s17 1134) (21320 + 41 * ((x2.toInt.toNat : Nat) : Int)) from (by rw [show 21320 + 41 * ((x2.toInt.toNat : Nat) : Int) = ((21320 : Int32) + ((41 : Int32) * x2)).toInt from by omega]; exact ⟨l, hc, hl2⟩)) (fun k h1 h2 j h3 h4 => ho j (by have h3 : 21320 + 41 * (k : Int) ≤ (j : Int) := h3; have h4 : (j : Int) < 21320 + 41 * (k : Int) + 41 := h4; omega)))) (show 0 ≤ x1.toInt from by omega) (show x1.toInt ≤ 2 from by omega) (show 0 ≤ (x2 + 1).toInt from by omega) (show (x2 + 1).toInt ≤ (ps_i s17 1131 54).toInt from by omega) (show 20 - (x2 + 1).toInt ≤ ((n - 1 : Nat) : Int) from by omega)

theorem ms_306 {x : Nat → Nat → Nat} {t : Int32} {s : ps_S} {d : Nat} {x1 : Int32} {f : Int32 → ps_S → Prop} (J : mJ x t s) {σ : mSig} (hMI : MI σ (ps_a s 1134) (ps_a s 1135) (ps_a s 1136) (ps_a s 1137) (ps_a s 1138) (ps_a s 1139) (ps_a s 1157) (ps_a s 1176) (ps_i s 1131 21).toInt (ps_i s 1131 47).toInt (ps_i s 1131 54).toInt) (k : ∀ (v : Int32) (s' : ps_S), mJ x t s' → kp [1134, 1161, 1162] [47, 48, 49, 54] s s' → (MI σ (ps_a s' 1134) (ps_a s' 1135) (ps_a s' 1136) (ps_a s' 1137) (ps_a s' 1138) (ps_a s' 1139) (ps_a s' 1157) (ps_a s' 1176) (ps_i s' 1131 21).toInt (ps_i s' 1131 47).toInt (ps_i s' 1131 54).toInt) → f v s') : ps_Cl (d + 1) 306 [.ref 1131, .int x1] s (ps_rI f) := by
  have K : kp [1134, 1161, 1162] [47, 48, 49, 54] s s := kp_refl
  refine pg_306_0 (d := d) ?_
  refine ms_200 J  (fun v1 p1_0 b1 => ?_)
  have p1_0' : v1.toInt = 0 ∨ ((0 : Int) ≤ x1.toInt ∧ x1.toInt ≤ (2 : Int)) := p1_0
  refine And.intro (fun h2 => ?_) (fun h2 => ?_)
  · have f3 : v1.toInt = (0 : Int) := xeq h2
    exact k (-1 : Int32) _ J K (hMI)
  · have f4 : v1.toInt ≠ (0 : Int) := xne h2
    refine ps_nd_i (show pm_in x1 3 = true from xgi (show 0 ≤ x1.toInt from by omega) (show x1.toInt < 3 from by omega)) ?_
    have r5 : -1 ≤ (ps_a s 1176 (Int32.toNatClampNeg x1)).toInt ∧ (ps_a s 1176 (Int32.toNatClampNeg x1)).toInt ≤ 12 := ma_1176 (i := x1) J (show 0 ≤ x1.toInt from by omega) (show x1.toInt < 3 from by omega)
    refine And.intro (fun h6 => ?_) (fun h6 => ?_)
    · have f7 : (0 : Int) ≤ (ps_a s 1176 (Int32.toNatClampNeg x1)).toInt := xle h6
      refine ps_nd_i (show pm_in x1 3 = true from xgi (show 0 ≤ x1.toInt from by omega) (show x1.toInt < 3 from by omega)) ?_
      obtain ⟨g0, hg0⟩ : ∃ g0 : Nat → Int32, g0 = ps_a s 1134 := ⟨_, rfl⟩
      obtain ⟨th0, hth0⟩ : ∃ th0 : Int, th0 = (ps_i s 1131 54).toInt := ⟨_, rfl⟩
      have hM0 : MI σ g0 (ps_a s 1135) (ps_a s 1136) (ps_a s 1137) (ps_a s 1138) (ps_a s 1139) (ps_a s 1157) (ps_a s 1176) (ps_i s 1131 21).toInt (ps_i s 1131 47).toInt th0 := by rw [hg0, hth0]; exact hMI
      have hof : ∀ k : Nat, (k : Int) < 21320 ∨ 21812 ≤ (k : Int) → ps_a s 1134 k = g0 k := fun k _ => (congrFun hg0 k).symm
      have J8 := mwi_54 (v := (ps_a s 1176 (Int32.toNatClampNeg x1))) J (show 0 ≤ (ps_a s 1176 (Int32.toNatClampNeg x1)).toInt from by omega) (show (ps_a s 1176 (Int32.toNatClampNeg x1)).toInt ≤ 12 from by omega)
      have K9 := kpi K (q := 54) (v := (ps_a s 1176 (Int32.toNatClampNeg x1))) rfl
      have hgb : (ps_a (ps_ui s 1131 54 (ps_a s 1176 (Int32.toNatClampNeg x1))) 1176 x1.toInt.toNat).toInt = (ps_i (ps_ui s 1131 54 (ps_a s 1176 (Int32.toNatClampNeg x1))) 1131 54).toInt := rfl
      exact ms_306_32 (x1 := x1) (σ := σ) k  (20 - (0 : Int)).toNat (0) g0 th0 _ J8 K9 hM0 hof hgb (fun k hk => absurd hk (by rw [Int32.toInt_zero]; omega)) (show 0 ≤ x1.toInt from by omega) (show x1.toInt ≤ 2 from by omega) (show 0 ≤ (0 : Int) from by omega) (show (0 : Int) ≤ (ps_a s 1176 (Int32.toNatClampNeg x1)).toInt from by omega) (show 20 - (0 : Int) ≤ (((20 - (0 : Int)).toNat : Nat) : Int) from by omega)
    · have f10 : (ps_a s 1176 (Int32.toNatClampNeg x1)).toInt < (0 : Int) := xlt h6
      exact k (-1 : Int32) _ J K (hMI)

-- ProofBenchModel.keep()I
theorem pg_268_0 {d : Nat} {s : ps_S} {Q : Option Value → ps_S → Prop} (h :
  (0 ≤ (ps_i s 1131 48) →
    Q (some (.int (-1))) s) ∧
  ((ps_i s 1131 48) < 0 →
    ((ps_i s 1131 47) = 0 →
      Q (some (.int (-1))) s) ∧
    ((ps_i s 1131 47) ≠ 0 →
      ps_nd (pm_in ((ps_i s 1131 47) - 1) 41) ((0 < (ps_a s 1157 (Int32.toNatClampNeg ((ps_i s 1131 47) - 1))) →
        Q (some (.int (-1))) s) ∧
      ((ps_a s 1157 (Int32.toNatClampNeg ((ps_i s 1131 47) - 1))) ≤ 0 →
        ((ps_i s 1131 54) ≠ 12 →
          ps_Cl d 242 [.int ((ps_i s 1131 47) - 1)] s (ps_rI (fun v1 s1 =>
            ps_At (d + 1) 268 51 [(0, .ref 1131), (1, .int v1), (2, .int 0)] [] s1 Q))) ∧
        ((ps_i s 1131 54) = 12 →
          Q (some (.int (-1))) s)))))) : ps_At (d + 1) 268 0 [(0, .ref 1131)] [] s Q :=
  ps_wp_at (stops := [(51, [0, 1, 2])]) (n := 36) h rfl

theorem pg_268_51 {d : Nat} {x1 : Int32} {x2 : Int32} {s : ps_S} {Q : Option Value → ps_S → Prop} (h :
  ps_Cl d 219 [.ref 1131, .int x1] s (ps_rI (fun v1 s1 =>
    (v1 ≤ x2 →
      ps_Cl d 224 [.ref 1131, .int x1, .int ((21320 : Int32) + ((41 : Int32) * (ps_i s1 1131 54)))] s1 (ps_rV (fun s2 =>
        ps_nd (pm_in ((ps_i s2 1131 47) - 1) 40) (ps_nd (pm_in (ps_i s2 1131 54) 12) (ps_nd (pm_in ((ps_i (ps_ua s2 1161 (Int32.toNatClampNeg (ps_i s2 1131 54)) (ps_a s2 1158 (Int32.toNatClampNeg ((ps_i s2 1131 47) - 1)))) 1131 47) - 1) 40) (ps_nd (pm_in (ps_i (ps_ua s2 1161 (Int32.toNatClampNeg (ps_i s2 1131 54)) (ps_a s2 1158 (Int32.toNatClampNeg ((ps_i s2 1131 47) - 1)))) 1131 54) 12) (Q (some (.int ((ps_i (ps_ui (ps_ua (ps_ua s2 1161 (Int32.toNatClampNeg (ps_i s2 1131 54)) (ps_a s2 1158 (Int32.toNatClampNeg ((ps_i s2 1131 47) - 1)))) 1162 (Int32.toNatClampNeg (ps_i (ps_ua s2 1161 (Int32.toNatClampNeg (ps_i s2 1131 54)) (ps_a s2 1158 (Int32.toNatClampNeg ((ps_i s2 1131 47) - 1)))) 1131 54)) (ps_a (ps_ua s2 1161 (Int32.toNatClampNeg (ps_i s2 1131 54)) (ps_a s2 1158 (Int32.toNatClampNeg ((ps_i s2 1131 47) - 1)))) 1159 (Int32.toNatClampNeg ((ps_i (ps_ua s2 1161 (Int32.toNatClampNeg (ps_i s2 1131 54)) (ps_a s2 1158 (Int32.toNatClampNeg ((ps_i s2 1131 47) - 1)))) 1131 47) - 1)))) 1131 54 ((ps_i (ps_ua (ps_ua s2 1161 (Int32.toNatClampNeg (ps_i s2 1131 54)) (ps_a s2 1158 (Int32.toNatClampNeg ((ps_i s2 1131 47) - 1)))) 1162 (Int32.toNatClampNeg (ps_i (ps_ua s2 1161 (Int32.toNatClampNeg (ps_i s2 1131 54)) (ps_a s2 1158 (Int32.toNatClampNeg ((ps_i s2 1131 47) - 1)))) 1131 54)) (ps_a (ps_ua s2 1161 (Int32.toNatClampNeg (ps_i s2 1131 54)) (ps_a s2 1158 (Int32.toNatClampNeg ((ps_i s2 1131 47) - 1)))) 1159 (Int32.toNatClampNeg ((ps_i (ps_ua s2 1161 (Int32.toNatClampNeg (ps_i s2 1131 54)) (ps_a s2 1158 (Int32.toNatClampNeg ((ps_i s2 1131 47) - 1)))) 1131 47) - 1)))) 1131 54) + 1)) 1131 54) - 1))) (ps_ui (ps_ua (ps_ua s2 1161 (Int32.toNatClampNeg (ps_i s2 1131 54)) (ps_a s2 1158 (Int32.toNatClampNeg ((ps_i s2 1131 47) - 1)))) 1162 (Int32.toNatClampNeg (ps_i (ps_ua s2 1161 (Int32.toNatClampNeg (ps_i s2 1131 54)) (ps_a s2 1158 (Int32.toNatClampNeg ((ps_i s2 1131 47) - 1)))) 1131 54)) (ps_a (ps_ua s2 1161 (Int32.toNatClampNeg (ps_i s2 1131 54)) (ps_a s2 1158 (Int32.toNatClampNeg ((ps_i s2 1131 47) - 1)))) 1159 (Int32.toNatClampNeg ((ps_i (ps_ua s2 1161 (Int32.toNatClampNeg (ps_i s2 1131 54)) (ps_a s2 1158 (Int32.toNatClampNeg ((ps_i s2 1131 47) - 1)))) 1131 47) - 1)))) 1131 54 ((ps_i (ps_ua (ps_ua s2 1161 (Int32.toNatClampNeg (ps_i s2 1131 54)) (ps_a s2 1158 (Int32.toNatClampNeg ((ps_i s2 1131 47) - 1)))) 1162 (Int32.toNatClampNeg (ps_i (ps_ua s2 1161 (Int32.toNatClampNeg (ps_i s2 1131 54)) (ps_a s2 1158 (Int32.toNatClampNeg ((ps_i s2 1131 47) - 1)))) 1131 54)) (ps_a (ps_ua s2 1161 (Int32.toNatClampNeg (ps_i s2 1131 54)) (ps_a s2 1158 (Int32.toNatClampNeg ((ps_i s2 1131 47) - 1)))) 1159 (Int32.toNatClampNeg ((ps_i (ps_ua s2 1161 (Int32.toNatClampNeg (ps_i s2 1131 54)) (ps_a s2 1158 (Int32.toNatClampNeg ((ps_i s2 1131 47) - 1)))) 1131 47) - 1)))) 1131 54) + 1))))))))) ∧
    (x2 < v1 →
      ps_Cl d 220 [.ref 1131, .int x1, .int x2] s1 (ps_rI (fun v3 s3 =>
        (v3 < 60 →
          ps_At (d + 1) 268 51 [(0, .ref 1131), (1, .int x1), (2, .int (x2 + 1))] [] s3 Q) ∧
        (60 ≤ v3 →
          Q (some (.int (-1))) s3))))))) : ps_At (d + 1) 268 51 [(0, .ref 1131), (1, .int x1), (2, .int x2)] [] s Q :=
  ps_wp_at (stops := [(51, [0, 1, 2])]) (n := 61) h rfl

theorem ms_268_51 {x : Nat → Nat → Nat} {t : Int32} {d : Nat} {s0 : ps_S} {σ : mSig} {Q : Option Value → ps_S → Prop} (k : ∀ (v : Int32) (s' : ps_S), mJ x t s' → kp [1134, 1161, 1162] [54] s0 s' → (MI σ (ps_a s' 1134) (ps_a s' 1135) (ps_a s' 1136) (ps_a s' 1137) (ps_a s' 1138) (ps_a s' 1139) (ps_a s' 1157) (ps_a s' 1176) (ps_i s' 1131 21).toInt (ps_i s' 1131 47).toInt (ps_i s' 1131 54).toInt) → Q (some (.int v)) s') : ∀ (n : Nat) (x1 : Int32) (x2 : Int32) (s : ps_S), (mJ x t s) → (kp [1134, 1161, 1162] [54] s0 s) → (MI σ (ps_a s 1134) (ps_a s 1135) (ps_a s 1136) (ps_a s 1137) (ps_a s 1138) (ps_a s 1139) (ps_a s 1157) (ps_a s 1176) (ps_i s 1131 21).toInt (ps_i s 1131 47).toInt (ps_i s 1131 54).toInt) → (0 < (ps_i s 1131 47).toInt) → (x1.toInt = 41 * ((ps_i s 1131 47).toInt - 1)) → (0 ≤ x2.toInt) → (x2.toInt ≤ 40) → ((ps_i s 1131 54).toInt < 12) → 50 - x2.toInt ≤ (n : Int) → ps_At (d + 1) 268 51 [(0, .ref 1131), (1, .int x1), (2, .int x2)] [] s Q := by
  refine xstr (fun n ih => ?_)
  intro x1 x2 s J K hMI i1 i2 i3 i4 i5 hm
  have r1 := mf_47 J
  have r2 := mf_54 J
  refine pg_268_51 (d := d) ?_
  refine pg_219_0 ?_
  refine ps_nd_i (show pm_in x1 27400 = true from xgi (show 0 ≤ x1.toInt from by omega) (show x1.toInt < 27400 from by omega)) ?_
  have r3 : x1.toInt % 41 = 0 → x1.toInt < 27306 → 0 ≤ (ps_a s 1134 (Int32.toNatClampNeg x1)).toInt ∧ (ps_a s 1134 (Int32.toNatClampNeg x1)).toInt ≤ 40 := fun z1 z2 => mp_row (i := x1) J z1 (show 0 ≤ x1.toInt from by omega) z2
  refine And.intro (fun h4 => ?_) (fun h4 => ?_)
  · have f5 : (ps_a s 1134 (Int32.toNatClampNeg x1)).toInt ≤ x2.toInt := xle h4
    have a6 : ((41 : Int32) * (ps_i s 1131 54)).toInt = (41 : Int) * (ps_i s 1131 54).toInt := xIm (show -2147483648 ≤ (41 : Int) * (ps_i s 1131 54).toInt from by omega) (show (41 : Int) * (ps_i s 1131 54).toInt < 2147483648 from by omega)
    have a7 : ((21320 : Int32) + ((41 : Int32) * (ps_i s 1131 54))).toInt = (21320 : Int) + ((41 : Int32) * (ps_i s 1131 54)).toInt := xIa (show -2147483648 ≤ (21320 : Int) + ((41 : Int32) * (ps_i s 1131 54)).toInt from by omega) (show (21320 : Int) + ((41 : Int32) * (ps_i s 1131 54)).toInt < 2147483648 from by omega)
    obtain ⟨l, hl1, hl2⟩ := MI_step (i := (ps_i s 1131 47).toInt - 1) (a := x1.toInt) hMI (by omega) (by omega) (by omega)
    obtain ⟨g0, hg0⟩ : ∃ g0 : Nat → Int32, g0 = ps_a s 1134 := ⟨_, rfl⟩
    have hM0 : MI σ g0 (ps_a s 1135) (ps_a s 1136) (ps_a s 1137) (ps_a s 1138) (ps_a s 1139) (ps_a s 1157) (ps_a s 1176) (ps_i s 1131 21).toInt (ps_i s 1131 47).toInt (ps_i s 1131 54).toInt := by rw [hg0]; exact hMI
    refine ms_224 J (hl1) (show ((21320 : Int32) + ((41 : Int32) * (ps_i s 1131 54))).toInt % 41 = 0 from by omega) (show 0 ≤ ((21320 : Int32) + ((41 : Int32) * (ps_i s 1131 54))).toInt from by omega) (show ((21320 : Int32) + ((41 : Int32) * (ps_i s 1131 54))).toInt < 27306 from by omega) (show x1.toInt ≠ ((21320 : Int32) + ((41 : Int32) * (ps_i s 1131 54))).toInt from by omega) (fun s8 J8 K8 p8_0 p8_1 => ?_)
    have K9 := kpt K K8 rfl rfl
    have hM0 : MI σ g0 (ps_a s8 1135) (ps_a s8 1136) (ps_a s8 1137) (ps_a s8 1138) (ps_a s8 1139) (ps_a s8 1157) (ps_a s8 1176) (ps_i s8 1131 21).toInt (ps_i s8 1131 47).toInt (ps_i s8 1131 54).toInt := by rw [show ps_a s8 1135 = ps_a s 1135 from (K8.2 1135 rfl).1, show ps_a s8 1136 = ps_a s 1136 from (K8.2 1136 rfl).1, show ps_a s8 1137 = ps_a s 1137 from (K8.2 1137 rfl).1, show ps_a s8 1138 = ps_a s 1138 from (K8.2 1138 rfl).1, show ps_a s8 1139 = ps_a s 1139 from (K8.2 1139 rfl).1, show ps_a s8 1157 = ps_a s 1157 from (K8.2 1157 rfl).1, show ps_a s8 1176 = ps_a s 1176 from (K8.2 1176 rfl).1, show ps_i s8 1131 21 = ps_i s 1131 21 from kp_i K8 21 rfl, show ps_i s8 1131 47 = ps_i s 1131 47 from kp_i K8 47 rfl, show ps_i s8 1131 54 = ps_i s 1131 54 from kp_i K8 54 rfl]; exact hM0
    have hc : _ := p8_0
    have ho : _ := p8_1
    have r10 := mf_54 J8
    have u11 : (ps_i s8 1131 54).toInt = (ps_i s 1131 54).toInt := xeq (kp_i K8 54 rfl)
    have r12 := mf_47 J8
    have u13 : (ps_i s8 1131 47).toInt = (ps_i s 1131 47).toInt := xeq (kp_i K8 47 rfl)
    have a14 : ((ps_i s8 1131 47) - 1).toInt = (ps_i s8 1131 47).toInt - (1 : Int) := xIs (show -2147483648 ≤ (ps_i s8 1131 47).toInt - (1 : Int) from by omega) (show (ps_i s8 1131 47).toInt - (1 : Int) < 2147483648 from by omega)
    refine ps_nd_i (show pm_in ((ps_i s8 1131 47) - 1) 40 = true from xgi (show 0 ≤ ((ps_i s8 1131 47) - 1).toInt from by omega) (show ((ps_i s8 1131 47) - 1).toInt < 40 from by omega)) ?_
    have u15 : (ps_a s8 1158 (Int32.toNatClampNeg ((ps_i s8 1131 47) - 1))).toInt = (ps_a s 1158 (Int32.toNatClampNeg ((ps_i s8 1131 47) - 1))).toInt := xeq (kp_a K8 1158 rfl _)
    refine ps_nd_i (show pm_in (ps_i s8 1131 54) 12 = true from xgi (show 0 ≤ (ps_i s8 1131 54).toInt from by omega) (show (ps_i s8 1131 54).toInt < 12 from by omega)) ?_
    have J16 := mwa_n 1161 (i := (Int32.toNatClampNeg (ps_i s8 1131 54))) (v := (ps_a s8 1158 (Int32.toNatClampNeg ((ps_i s8 1131 47) - 1)))) J8 rfl (by decide)
    have K17 := kpa' K9 (r := 1161) (i := (Int32.toNatClampNeg (ps_i s8 1131 54))) (v := (ps_a s8 1158 (Int32.toNatClampNeg ((ps_i s8 1131 47) - 1)))) rfl
    refine ps_nd_i (show pm_in ((ps_i s8 1131 47) - 1) 40 = true from xgi (show 0 ≤ ((ps_i s8 1131 47) - 1).toInt from by omega) (show ((ps_i s8 1131 47) - 1).toInt < 40 from by omega)) ?_
    have u18 : (ps_a s8 1159 (Int32.toNatClampNeg ((ps_i s8 1131 47) - 1))).toInt = (ps_a s 1159 (Int32.toNatClampNeg ((ps_i s8 1131 47) - 1))).toInt := xeq (kp_a K8 1159 rfl _)
    refine ps_nd_i (show pm_in (ps_i s8 1131 54) 12 = true from xgi (show 0 ≤ (ps_i s8 1131 54).toInt from by omega) (show (ps_i s8 1131 54).toInt < 12 from by omega)) ?_
    have J19 := mwa_n 1162 (i := (Int32.toNatClampNeg (ps_i s8 1131 54))) (v := (ps_a s8 1159 (Int32.toNatClampNeg ((ps_i s8 1131 47) - 1)))) J16 rfl (by decide)
    have K20 := kpa' K17 (r := 1162) (i := (Int32.toNatClampNeg (ps_i s8 1131 54))) (v := (ps_a s8 1159 (Int32.toNatClampNeg ((ps_i s8 1131 47) - 1)))) rfl
    have a21 : ((ps_i s8 1131 54) + 1).toInt = (ps_i s8 1131 54).toInt + (1 : Int) := xIa (show -2147483648 ≤ (ps_i s8 1131 54).toInt + (1 : Int) from by omega) (show (ps_i s8 1131 54).toInt + (1 : Int) < 2147483648 from by omega)
    have J22 := mwi_54 (v := ((ps_i s8 1131 54) + 1)) J19 (show 0 ≤ ((ps_i s8 1131 54) + 1).toInt from by omega) (show ((ps_i s8 1131 54) + 1).toInt ≤ 12 from by omega)
    have K23 := kpi K20 (q := 54) (v := ((ps_i s8 1131 54) + 1)) rfl
    have a24 : (((ps_i s8 1131 54) + 1) - 1).toInt = ((ps_i s8 1131 54) + 1).toInt - (1 : Int) := xIs (show -2147483648 ≤ ((ps_i s8 1131 54) + 1).toInt - (1 : Int) from by omega) (show ((ps_i s8 1131 54) + 1).toInt - (1 : Int) < 2147483648 from by omega)
    exact k (((ps_i s8 1131 54) + 1) - 1) _ J22 K23 (MI_keep1 (a := ((21320 : Int32) + ((41 : Int32) * (ps_i s 1131 54))).toInt) hM0 (show (ps_i s8 1131 47).toInt ≤ 40 from by omega) (show 0 ≤ (ps_i s8 1131 54).toInt from by omega) (show (ps_i s8 1131 54).toInt < 12 from by omega) (show ((21320 : Int32) + ((41 : Int32) * (ps_i s 1131 54))).toInt = 21320 + 41 * (ps_i s8 1131 54).toInt from by omega) (show ((ps_i s8 1131 54) + 1).toInt = (ps_i s8 1131 54).toInt + 1 from by omega) (fun k hk => (ho k hk).trans (congrFun hg0 k).symm) ⟨l, hc, hl2⟩)
  · have f25 : x2.toInt < (ps_a s 1134 (Int32.toNatClampNeg x1)).toInt := xlt h4
    refine pg_220_0 ?_
    have a26 : (x1 + 1).toInt = x1.toInt + (1 : Int) := xIa (show -2147483648 ≤ x1.toInt + (1 : Int) from by omega) (show x1.toInt + (1 : Int) < 2147483648 from by omega)
    have a27 : ((x1 + 1) + x2).toInt = (x1 + 1).toInt + x2.toInt := xIa (show -2147483648 ≤ (x1 + 1).toInt + x2.toInt from by omega) (show (x1 + 1).toInt + x2.toInt < 2147483648 from by omega)
    refine ps_nd_i (show pm_in ((x1 + 1) + x2) 27400 = true from xgi (show 0 ≤ ((x1 + 1) + x2).toInt from by omega) (show ((x1 + 1) + x2).toInt < 27400 from by omega)) ?_
    have r28 : ((x1 + 1) + x2).toInt % 41 = 0 → ((x1 + 1) + x2).toInt < 27306 → 0 ≤ (ps_a s 1134 (Int32.toNatClampNeg ((x1 + 1) + x2))).toInt ∧ (ps_a s 1134 (Int32.toNatClampNeg ((x1 + 1) + x2))).toInt ≤ 40 := fun z1 z2 => mp_row (i := ((x1 + 1) + x2)) J z1 (show 0 ≤ ((x1 + 1) + x2).toInt from by omega) z2
    refine And.intro (fun h29 => ?_) (fun h29 => ?_)
    · have f30 : (ps_a s 1134 (Int32.toNatClampNeg ((x1 + 1) + x2))).toInt < (60 : Int) := xlt h29
      have a31 : (x2 + 1).toInt = x2.toInt + (1 : Int) := xIa (show -2147483648 ≤ x2.toInt + (1 : Int) from by omega) (show x2.toInt + (1 : Int) < 2147483648 from by omega)
      exact ih (n - 1) (show n - 1 < n from by omega) x1 (x2 + 1) _ J K hMI (show 0 < (ps_i s 1131 47).toInt from by omega) (show x1.toInt = 41 * ((ps_i s 1131 47).toInt - 1) from by omega) (show 0 ≤ (x2 + 1).toInt from by omega) (show (x2 + 1).toInt ≤ 40 from by omega) (show (ps_i s 1131 54).toInt < 12 from by omega) (show 50 - (x2 + 1).toInt ≤ ((n - 1 : Nat) : Int) from by omega)
    · have f32 : (60 : Int) ≤ (ps_a s 1134 (Int32.toNatClampNeg ((x1 + 1) + x2))).toInt := xle h29
      exact k (-1 : Int32) _ J K hMI

theorem ms_268 {x : Nat → Nat → Nat} {t : Int32} {s : ps_S} {d : Nat} {f : Int32 → ps_S → Prop} (J : mJ x t s) {σ : mSig} (hMI : MI σ (ps_a s 1134) (ps_a s 1135) (ps_a s 1136) (ps_a s 1137) (ps_a s 1138) (ps_a s 1139) (ps_a s 1157) (ps_a s 1176) (ps_i s 1131 21).toInt (ps_i s 1131 47).toInt (ps_i s 1131 54).toInt) (k : ∀ (v : Int32) (s' : ps_S), mJ x t s' → kp [1134, 1161, 1162] [54] s s' → (MI σ (ps_a s' 1134) (ps_a s' 1135) (ps_a s' 1136) (ps_a s' 1137) (ps_a s' 1138) (ps_a s' 1139) (ps_a s' 1157) (ps_a s' 1176) (ps_i s' 1131 21).toInt (ps_i s' 1131 47).toInt (ps_i s' 1131 54).toInt) → f v s') : ps_Cl (d + 1) 268 [.ref 1131] s (ps_rI f) := by
  have K : kp [1134, 1161, 1162] [54] s s := kp_refl
  refine pg_268_0 (d := d) ?_
  have r1 := mf_48 J
  refine And.intro (fun h2 => ?_) (fun h2 => ?_)
  · have f3 : (0 : Int) ≤ (ps_i s 1131 48).toInt := xle h2
    exact k (-1 : Int32) _ J K hMI
  · have f4 : (ps_i s 1131 48).toInt < (0 : Int) := xlt h2
    have r5 := mf_47 J
    refine And.intro (fun h6 => ?_) (fun h6 => ?_)
    · have f7 : (ps_i s 1131 47).toInt = (0 : Int) := xeq h6
      exact k (-1 : Int32) _ J K hMI
    · have f8 : (ps_i s 1131 47).toInt ≠ (0 : Int) := xne h6
      have a9 : ((ps_i s 1131 47) - 1).toInt = (ps_i s 1131 47).toInt - (1 : Int) := xIs (show -2147483648 ≤ (ps_i s 1131 47).toInt - (1 : Int) from by omega) (show (ps_i s 1131 47).toInt - (1 : Int) < 2147483648 from by omega)
      refine ps_nd_i (show pm_in ((ps_i s 1131 47) - 1) 41 = true from xgi (show 0 ≤ ((ps_i s 1131 47) - 1).toInt from by omega) (show ((ps_i s 1131 47) - 1).toInt < 41 from by omega)) ?_
      have r10 : 0 ≤ (ps_a s 1157 (Int32.toNatClampNeg ((ps_i s 1131 47) - 1))).toInt ∧ (ps_a s 1157 (Int32.toNatClampNeg ((ps_i s 1131 47) - 1))).toInt ≤ 12 := ma_1157 (i := ((ps_i s 1131 47) - 1)) J (show 0 ≤ ((ps_i s 1131 47) - 1).toInt from by omega) (show ((ps_i s 1131 47) - 1).toInt < 41 from by omega)
      refine And.intro (fun h11 => ?_) (fun h11 => ?_)
      · have f12 : (0 : Int) < (ps_a s 1157 (Int32.toNatClampNeg ((ps_i s 1131 47) - 1))).toInt := xlt h11
        exact k (-1 : Int32) _ J K hMI
      · have f13 : (ps_a s 1157 (Int32.toNatClampNeg ((ps_i s 1131 47) - 1))).toInt ≤ (0 : Int) := xle h11
        have r14 := mf_54 J
        refine And.intro (fun h15 => ?_) (fun h15 => ?_)
        · have f16 : (ps_i s 1131 54).toInt ≠ (12 : Int) := xne h15
          refine pg_242_0 ?_
          have a17 : ((41 : Int32) * ((ps_i s 1131 47) - 1)).toInt = (41 : Int) * ((ps_i s 1131 47) - 1).toInt := xIm (show -2147483648 ≤ (41 : Int) * ((ps_i s 1131 47) - 1).toInt from by omega) (show (41 : Int) * ((ps_i s 1131 47) - 1).toInt < 2147483648 from by omega)
          have a18 : ((0 : Int32) + ((41 : Int32) * ((ps_i s 1131 47) - 1))).toInt = (0 : Int) + ((41 : Int32) * ((ps_i s 1131 47) - 1)).toInt := xIa (show -2147483648 ≤ (0 : Int) + ((41 : Int32) * ((ps_i s 1131 47) - 1)).toInt from by omega) (show (0 : Int) + ((41 : Int32) * ((ps_i s 1131 47) - 1)).toInt < 2147483648 from by omega)
          exact ms_268_51 (σ := σ) k  (50 - (0 : Int)).toNat ((0 : Int32) + ((41 : Int32) * ((ps_i s 1131 47) - 1))) (0) _ J K hMI (show 0 < (ps_i s 1131 47).toInt from by omega) (show ((0 : Int32) + ((41 : Int32) * ((ps_i s 1131 47) - 1))).toInt = 41 * ((ps_i s 1131 47).toInt - 1) from by omega) (show 0 ≤ (0 : Int) from by omega) (show (0 : Int) ≤ 40 from by omega) (show (ps_i s 1131 54).toInt < 12 from by omega) (show 50 - (0 : Int) ≤ (((50 - (0 : Int)).toNat : Nat) : Int) from by omega)
        · have f19 : (ps_i s 1131 54).toInt = (12 : Int) := xeq h15
          exact k (-1 : Int32) _ J K hMI

-- ProofBenchModel.drop()I
theorem pg_273_0 {d : Nat} {s : ps_S} {Q : Option Value → ps_S → Prop} (h :
  ((ps_i s 1131 54) ≠ 0 →
    ps_Cl d 272 [.ref 1131] (ps_ui s 1131 54 ((ps_i s 1131 54) - 1)) (ps_rV (fun s1 =>
      Q (some (.int (ps_i s1 1131 54))) s1))) ∧
  ((ps_i s 1131 54) = 0 →
    Q (some (.int (-1))) s)) : ps_At (d + 1) 273 0 [(0, .ref 1131)] [] s Q :=
  ps_wp_at (stops := []) (n := 18) h rfl

theorem ms_273 {x : Nat → Nat → Nat} {t : Int32} {s : ps_S} {d : Nat} {f : Int32 → ps_S → Prop} (J : mJ x t s) {σ : mSig} (hMI : MI σ (ps_a s 1134) (ps_a s 1135) (ps_a s 1136) (ps_a s 1137) (ps_a s 1138) (ps_a s 1139) (ps_a s 1157) (ps_a s 1176) (ps_i s 1131 21).toInt (ps_i s 1131 47).toInt (ps_i s 1131 54).toInt) (k : ∀ (v : Int32) (s' : ps_S), mJ x t s' → kp [] [47, 48, 49, 54] s s' → (MI σ (ps_a s' 1134) (ps_a s' 1135) (ps_a s' 1136) (ps_a s' 1137) (ps_a s' 1138) (ps_a s' 1139) (ps_a s' 1157) (ps_a s' 1176) (ps_i s' 1131 21).toInt (ps_i s' 1131 47).toInt (ps_i s' 1131 54).toInt) → f v s') : ps_Cl (d + 1) 273 [.ref 1131] s (ps_rI f) := by
  have K : kp [] [47, 48, 49, 54] s s := kp_refl
  refine pg_273_0 (d := d) ?_
  have r1 := mf_54 J
  refine And.intro (fun h2 => ?_) (fun h2 => ?_)
  · have f3 : (ps_i s 1131 54).toInt ≠ (0 : Int) := xne h2
    have a4 : ((ps_i s 1131 54) - 1).toInt = (ps_i s 1131 54).toInt - (1 : Int) := xIs (show -2147483648 ≤ (ps_i s 1131 54).toInt - (1 : Int) from by omega) (show (ps_i s 1131 54).toInt - (1 : Int) < 2147483648 from by omega)
    have J5 := mwi_54 (v := ((ps_i s 1131 54) - 1)) J (show 0 ≤ ((ps_i s 1131 54) - 1).toInt from by omega) (show ((ps_i s 1131 54) - 1).toInt ≤ 12 from by omega)
    have K6 := kpi K (q := 54) (v := ((ps_i s 1131 54) - 1)) rfl
    refine pg_272_0 ?_
    have J7 := mwi_47 (v := (0 : Int32)) J5 (show 0 ≤ (0 : Int) from by omega) (show (0 : Int) ≤ 40 from by omega)
    have K8 := kpi K6 (q := 47) (v := (0 : Int32)) rfl
    have J9 := mwi_48 (v := (-1 : Int32)) J7 (show -1 ≤ (-1 : Int) from by omega) (show (-1 : Int) ≤ 40 from by omega)
    have K10 := kpi K8 (q := 48) (v := (-1 : Int32)) rfl
    have J11 := mwi_n 49 (v := (-1 : Int32)) J9 rfl
    have K12 := kpi K10 (q := 49) (v := (-1 : Int32)) rfl
    exact k ((ps_i s 1131 54) - 1) _ J11 K12 (MI_st hMI (mf_47 J).1 (show ((ps_i s 1131 54) - 1).toInt ≤ (ps_i s 1131 54).toInt from by omega))
  · have f13 : (ps_i s 1131 54).toInt = (0 : Int) := xeq h2
    exact k (-1 : Int32) _ J K (hMI)
end
section
/-! a row of signs: prefix code of and, or, imp over false and letters -/
def pw : List Nat → Nat → Prop
  | [], k => k = 0
  | c :: l, k => (c ≤ 3 ∨ 100 ≤ c) ∧ ∃ k', k = k' + 1 ∧ pw l (k' + if c = 1 ∨ c = 2 ∨ c = 3 then 2 else 0)
theorem pw_le : ∀ {m : List Nat} {k : Nat}, pw m k → k ≤ m.length
  | [], k, h => by rw [show k = 0 from h]; exact Nat.zero_le _
  | c :: m, k, ⟨h0, k', h1, h2⟩ => by
    have := pw_le h2
    rw [List.length_cons]
    omega
theorem pw_un : ∀ {m : List Nat} {k j : Nat}, pw m k → pw m j → k = j
  | [], k, j, h, h' => by rw [show k = 0 from h, show j = 0 from h']
  | c :: m, k, j, ⟨h0, k', h1, h2⟩, ⟨g0, j', g1, g2⟩ => by
    have := pw_un h2 g2
    omega
theorem pw_app : ∀ {a m : List Nat} {k : Nat}, pw (a ++ m) k → ∃ j, pw m j
  | [], m, k, h => ⟨k, h⟩
  | c :: a, m, k, ⟨h0, k', h1, h2⟩ => pw_app h2
theorem pw_snoc {S : List Nat} {k c : Nat} (h : ∀ m, pw m (k + 1) → pw (S ++ m) 1) (hc : c ≤ 3 ∨ 100 ≤ c) : ∀ m, pw m (k + if c = 1 ∨ c = 2 ∨ c = 3 then 2 else 0) → pw ((S ++ [c]) ++ m) 1 := by
  intro m hm
  rw [List.append_assoc]
  exact h ([c] ++ m) ⟨hc, k, rfl, hm⟩
theorem LW_c {σ : mSig} {c k : Nat} {l : List Nat} (h : ws σ (c :: l) (List.replicate k true)) (hc : c ≤ 3) : ∃ k', k = k' + 1 ∧ ws σ l (List.replicate (k' + if c = 1 ∨ c = 2 ∨ c = 3 then 2 else 0) true) := by
  cases k with
  | zero => cases h
  | succ k' =>
    refine ⟨k', rfl, ?_⟩
    obtain ⟨ks, hk, hw⟩ := ws_hd (show ws σ (c :: l) (true :: List.replicate k' true) from h)
    by_cases e : c = 0
    · subst e
      cases hk
      exact hw
    · rw [kS_f2 (by omega) hc] at hk
      cases hk
      rw [if_pos (by omega)]
      exact hw
theorem LW_l {σ : mSig} {c k : Nat} {l : List Nat} (h : ws σ (c :: l) (List.replicate k true)) : ∃ k' p q, k = k' + 1 ∧ c :: l = p ++ q ∧ ws σ p [true] ∧ ws σ q (List.replicate k' true) := by
  cases k with
  | zero => cases h
  | succ k' =>
    obtain ⟨p, q, h1, h2, h3⟩ := ws_split (W1 := [true]) (W2 := List.replicate k' true) (show ws σ (c :: l) ([true] ++ List.replicate k' true) from h)
    exact ⟨k', p, q, rfl, h1, h2, h3⟩
theorem LW_0 {σ : mSig} {k : Nat} (h : ws σ [] (List.replicate k true)) : k = 0 := by
  cases k with
  | zero => rfl
  | succ k' => cases h
theorem lsnoc {α : Type} {l : List α} (h : 0 < (l.length : Int)) : ∃ a c, l = a ++ [c] := by
  have hne : l ≠ [] := fun z => by rw [z, List.length_nil] at h; omega
  exact ⟨l.dropLast, l.getLast hne, (List.dropLast_concat_getLast hne).symm⟩
theorem Md_n {g : Nat → Int32} {n n' : Int} {l : List Nat} (h : Md g n l) (e : n' = n) : Md g n' l := by rw [e]; exact h
/-- a connective takes the two that stand there -/
theorem pw_bin {S a m : List Nat} {c n : Nat} (h : pw S 1) (e : S = a ++ c :: m) (hc : c = 1 ∨ c = 2 ∨ c = 3) (hm : pw m n) : 2 ≤ n ∧ pw (c :: m) (n - 1) := by
  rw [e] at h
  obtain ⟨j, hj⟩ := pw_app h
  obtain ⟨h0, k', h1, h2⟩ := hj
  rw [if_pos hc] at h2
  have := pw_un hm h2
  refine ⟨by omega, h0, k', by omega, ?_⟩
  rw [if_pos hc]
  exact h2
theorem pw_val {S a m : List Nat} {c : Nat} (h : pw S 1) (e : S = a ++ c :: m) : c ≤ 3 ∨ 100 ≤ c := by
  rw [e] at h
  obtain ⟨j, hj⟩ := pw_app h
  exact hj.1
theorem pw_leaf {S a m : List Nat} {c n : Nat} (h : pw S 1) (e : S = a ++ c :: m) (hc : ¬ (c = 1 ∨ c = 2 ∨ c = 3)) (hm : pw m n) : pw (c :: m) (n + 1) := by
  refine ⟨pw_val h e, n, rfl, ?_⟩
  rw [if_neg hc]
  exact hm
theorem and01 {a b : Int32} (ha : 0 ≤ a.toInt ∧ a.toInt ≤ 1) (hb : 0 ≤ b.toInt ∧ b.toInt ≤ 1) : 0 ≤ (a &&& b).toInt ∧ (a &&& b).toInt ≤ 1 := by
  rcases (show a.toInt = 0 ∨ a.toInt = 1 from by omega) with h | h <;> rcases (show b.toInt = 0 ∨ b.toInt = 1 from by omega) with g | g
  · rw [x0 h, x0 g]; decide
  · rw [x0 h, xO1 g]; decide
  · rw [xO1 h, x0 g]; decide
  · rw [xO1 h, xO1 g]; decide
theorem or01 {a b : Int32} (ha : 0 ≤ a.toInt ∧ a.toInt ≤ 1) (hb : 0 ≤ b.toInt ∧ b.toInt ≤ 1) : 0 ≤ (a ||| b).toInt ∧ (a ||| b).toInt ≤ 1 := by
  rcases (show a.toInt = 0 ∨ a.toInt = 1 from by omega) with h | h <;> rcases (show b.toInt = 0 ∨ b.toInt = 1 from by omega) with g | g
  · rw [x0 h, x0 g]; decide
  · rw [x0 h, xO1 g]; decide
  · rw [xO1 h, x0 g]; decide
  · rw [xO1 h, xO1 g]; decide
theorem Md_w {s : ps_S} {r : Nat} {n v : Int32} {ml : List Nat} {c : Nat} (h : Md (ps_a s r) n.toInt ml) (hl : ml.length < 90000) (hv : v.toInt = c) : Md (ps_a (ps_ua s r (Int32.toNatClampNeg n) v) r) (n.toInt + 1) (ml ++ [c]) := by
  have e : Int32.toNatClampNeg n = ml.length := by
    rw [nx (n := (ml.length : Int)) h.1]
    omega
  refine Md_mk h hl rfl (fun i hi _ => ua_ne (by omega)) (fun _ => ?_)
  rw [e, ua_eq]
  exact hv
end
section
set_option maxRecDepth 100000
-- ProofBenchModel.letterOf(II)I
theorem pg_278_0 {d : Nat} {x1 : Int32} {x2 : Int32} {s : ps_S} {Q : Option Value → ps_S → Prop} (h :
  ps_At (d + 1) 278 2 [(0, .ref 1131), (1, .int x1), (2, .int x2), (3, .int 0)] [] s Q) : ps_At (d + 1) 278 0 [(0, .ref 1131), (1, .int x1), (2, .int x2)] [] s Q :=
  ps_wp_at (stops := [(2, [0, 1, 2, 3])]) (n := 4) h rfl

theorem pg_278_2 {d : Nat} {x1 : Int32} {x2 : Int32} {x3 : Int32} {s : ps_S} {Q : Option Value → ps_S → Prop} (h :
  ((ps_i s 1131 60) ≤ x3 →
    ps_nd (pm_in (ps_i s 1131 60) 41) (ps_nd (pm_in (ps_i (ps_ua s 1164 (Int32.toNatClampNeg (ps_i s 1131 60)) x1) 1131 60) 41) (Q (some (.int ((ps_i (ps_ui (ps_ua (ps_ua s 1164 (Int32.toNatClampNeg (ps_i s 1131 60)) x1) 1165 (Int32.toNatClampNeg (ps_i (ps_ua s 1164 (Int32.toNatClampNeg (ps_i s 1131 60)) x1) 1131 60)) x2) 1131 60 ((ps_i (ps_ua (ps_ua s 1164 (Int32.toNatClampNeg (ps_i s 1131 60)) x1) 1165 (Int32.toNatClampNeg (ps_i (ps_ua s 1164 (Int32.toNatClampNeg (ps_i s 1131 60)) x1) 1131 60)) x2) 1131 60) + 1)) 1131 60) - 1))) (ps_ui (ps_ua (ps_ua s 1164 (Int32.toNatClampNeg (ps_i s 1131 60)) x1) 1165 (Int32.toNatClampNeg (ps_i (ps_ua s 1164 (Int32.toNatClampNeg (ps_i s 1131 60)) x1) 1131 60)) x2) 1131 60 ((ps_i (ps_ua (ps_ua s 1164 (Int32.toNatClampNeg (ps_i s 1131 60)) x1) 1165 (Int32.toNatClampNeg (ps_i (ps_ua s 1164 (Int32.toNatClampNeg (ps_i s 1131 60)) x1) 1131 60)) x2) 1131 60) + 1))))) ∧
  (x3 < (ps_i s 1131 60) →
    ps_nd (pm_in x3 41) (ps_nd (pm_in x3 41) ((((ps_a s 1165 (Int32.toNatClampNeg x3)) - (ps_a s 1164 (Int32.toNatClampNeg x3))) ≠ (x2 - x1) →
      ps_At (d + 1) 278 2 [(0, .ref 1131), (1, .int x1), (2, .int x2), (3, .int (x3 + 1))] [] s Q) ∧
    (((ps_a s 1165 (Int32.toNatClampNeg x3)) - (ps_a s 1164 (Int32.toNatClampNeg x3))) = (x2 - x1) →
      ps_nd (pm_in x3 41) (ps_Cl d 259 [.ref 1131, .int 25748, .int x1, .int (x2 - x1), .int 25748, .int (ps_a s 1164 (Int32.toNatClampNeg x3))] s (ps_rI (fun v1 s1 =>
        (v1 = 0 →
          ps_At (d + 1) 278 2 [(0, .ref 1131), (1, .int x1), (2, .int x2), (3, .int (x3 + 1))] [] s1 Q) ∧
        (v1 ≠ 0 →
          Q (some (.int x3)) s1))))))))) : ps_At (d + 1) 278 2 [(0, .ref 1131), (1, .int x1), (2, .int x2), (3, .int x3)] [] s Q :=
  ps_wp_at (stops := [(2, [0, 1, 2, 3])]) (n := 61) h rfl

theorem ms_278_2 {x : Nat → Nat → Nat} {t : Int32} {d : Nat} {s0 : ps_S} {x1 : Int32} {x2 : Int32} {Q : Option Value → ps_S → Prop} (k : ∀ (v : Int32) (s' : ps_S), mJ x t s' → kp [1164, 1165] [60] s0 s' → (0 ≤ v.toInt) → (v.toInt ≤ 39) → ((ps_i s0 1131 60).toInt ≤ (ps_i s' 1131 60).toInt) → ((ps_i s' 1131 60).toInt ≤ (ps_i s0 1131 60).toInt + 1) → Q (some (.int v)) s') : ∀ (n : Nat) (x3 : Int32) (s : ps_S), (mJ x t s) → (kp [1164, 1165] [60] s0 s) → (0 ≤ x1.toInt) → (x1.toInt ≤ 39) → (x1.toInt ≤ x2.toInt) → (x2.toInt ≤ 40) → ((ps_i s 1131 60).toInt ≤ 39) → ((ps_i s0 1131 60).toInt = (ps_i s 1131 60).toInt) → (0 ≤ x3.toInt) → (x3.toInt ≤ (ps_i s 1131 60).toInt) → 50 - x3.toInt ≤ (n : Int) → ps_At (d + 2) 278 2 [(0, .ref 1131), (1, .int x1), (2, .int x2), (3, .int x3)] [] s Q := by
  refine xstr (fun n ih => ?_)
  intro x3 s J K i0 i1 i2 i3 i4 i5 i6 i7 hm
  have r1 := mf_60 J
  refine pg_278_2 (d := d + 1) ?_
  refine And.intro (fun h2 => ?_) (fun h2 => ?_)
  · have f3 : (ps_i s 1131 60).toInt ≤ x3.toInt := xle h2
    refine ps_nd_i (show pm_in (ps_i s 1131 60) 41 = true from xgi (show 0 ≤ (ps_i s 1131 60).toInt from by omega) (show (ps_i s 1131 60).toInt < 41 from by omega)) ?_
    have J4 := mwa_1164 (i := (Int32.toNatClampNeg (ps_i s 1131 60))) (v := x1) J (show 0 ≤ x1.toInt from by omega) (show x1.toInt ≤ 40 from by omega)
    have K5 := kpa' K (r := 1164) (i := (Int32.toNatClampNeg (ps_i s 1131 60))) (v := x1) rfl
    refine ps_nd_i (show pm_in (ps_i s 1131 60) 41 = true from xgi (show 0 ≤ (ps_i s 1131 60).toInt from by omega) (show (ps_i s 1131 60).toInt < 41 from by omega)) ?_
    have J6 := mwa_1165 (i := (Int32.toNatClampNeg (ps_i s 1131 60))) (v := x2) J4 (show 0 ≤ x2.toInt from by omega) (show x2.toInt ≤ 40 from by omega)
    have K7 := kpa' K5 (r := 1165) (i := (Int32.toNatClampNeg (ps_i s 1131 60))) (v := x2) rfl
    have a8 : ((ps_i s 1131 60) + 1).toInt = (ps_i s 1131 60).toInt + (1 : Int) := xIa (show -2147483648 ≤ (ps_i s 1131 60).toInt + (1 : Int) from by omega) (show (ps_i s 1131 60).toInt + (1 : Int) < 2147483648 from by omega)
    have J9 := mwi_60 (v := ((ps_i s 1131 60) + 1)) J6 (show 0 ≤ ((ps_i s 1131 60) + 1).toInt from by omega) (show ((ps_i s 1131 60) + 1).toInt ≤ 40 from by omega)
    have K10 := kpi K7 (q := 60) (v := ((ps_i s 1131 60) + 1)) rfl
    have a11 : (((ps_i s 1131 60) + 1) - 1).toInt = ((ps_i s 1131 60) + 1).toInt - (1 : Int) := xIs (show -2147483648 ≤ ((ps_i s 1131 60) + 1).toInt - (1 : Int) from by omega) (show ((ps_i s 1131 60) + 1).toInt - (1 : Int) < 2147483648 from by omega)
    exact k (((ps_i s 1131 60) + 1) - 1) _ J9 K10 (show 0 ≤ (((ps_i s 1131 60) + 1) - 1).toInt from by omega) (show (((ps_i s 1131 60) + 1) - 1).toInt ≤ 39 from by omega) (show (ps_i s0 1131 60).toInt ≤ ((ps_i s 1131 60) + 1).toInt from by omega) (show ((ps_i s 1131 60) + 1).toInt ≤ (ps_i s0 1131 60).toInt + 1 from by omega)
  · have f12 : x3.toInt < (ps_i s 1131 60).toInt := xlt h2
    refine ps_nd_i (show pm_in x3 41 = true from xgi (show 0 ≤ x3.toInt from by omega) (show x3.toInt < 41 from by omega)) ?_
    have r13 : 0 ≤ (ps_a s 1165 (Int32.toNatClampNeg x3)).toInt ∧ (ps_a s 1165 (Int32.toNatClampNeg x3)).toInt ≤ 40 := ma_1165 (i := x3) J (show 0 ≤ x3.toInt from by omega) (show x3.toInt < 41 from by omega)
    refine ps_nd_i (show pm_in x3 41 = true from xgi (show 0 ≤ x3.toInt from by omega) (show x3.toInt < 41 from by omega)) ?_
    have r14 : 0 ≤ (ps_a s 1164 (Int32.toNatClampNeg x3)).toInt ∧ (ps_a s 1164 (Int32.toNatClampNeg x3)).toInt ≤ 40 := ma_1164 (i := x3) J (show 0 ≤ x3.toInt from by omega) (show x3.toInt < 41 from by omega)
    have a15 : ((ps_a s 1165 (Int32.toNatClampNeg x3)) - (ps_a s 1164 (Int32.toNatClampNeg x3))).toInt = (ps_a s 1165 (Int32.toNatClampNeg x3)).toInt - (ps_a s 1164 (Int32.toNatClampNeg x3)).toInt := xIs (show -2147483648 ≤ (ps_a s 1165 (Int32.toNatClampNeg x3)).toInt - (ps_a s 1164 (Int32.toNatClampNeg x3)).toInt from by omega) (show (ps_a s 1165 (Int32.toNatClampNeg x3)).toInt - (ps_a s 1164 (Int32.toNatClampNeg x3)).toInt < 2147483648 from by omega)
    have a16 : (x2 - x1).toInt = x2.toInt - x1.toInt := xIs (show -2147483648 ≤ x2.toInt - x1.toInt from by omega) (show x2.toInt - x1.toInt < 2147483648 from by omega)
    refine And.intro (fun h17 => ?_) (fun h17 => ?_)
    · have f18 : ((ps_a s 1165 (Int32.toNatClampNeg x3)) - (ps_a s 1164 (Int32.toNatClampNeg x3))).toInt ≠ (x2 - x1).toInt := xne h17
      have a19 : (x3 + 1).toInt = x3.toInt + (1 : Int) := xIa (show -2147483648 ≤ x3.toInt + (1 : Int) from by omega) (show x3.toInt + (1 : Int) < 2147483648 from by omega)
      exact ih (n - 1) (show n - 1 < n from by omega) (x3 + 1) _ J K (show 0 ≤ x1.toInt from by omega) (show x1.toInt ≤ 39 from by omega) (show x1.toInt ≤ x2.toInt from by omega) (show x2.toInt ≤ 40 from by omega) (show (ps_i s 1131 60).toInt ≤ 39 from by omega) (show (ps_i s0 1131 60).toInt = (ps_i s 1131 60).toInt from by omega) (show 0 ≤ (x3 + 1).toInt from by omega) (show (x3 + 1).toInt ≤ (ps_i s 1131 60).toInt from by omega) (show 50 - (x3 + 1).toInt ≤ ((n - 1 : Nat) : Int) from by omega)
    · have f20 : ((ps_a s 1165 (Int32.toNatClampNeg x3)) - (ps_a s 1164 (Int32.toNatClampNeg x3))).toInt = (x2 - x1).toInt := xeq h17
      refine ps_nd_i (show pm_in x3 41 = true from xgi (show 0 ≤ x3.toInt from by omega) (show x3.toInt < 41 from by omega)) ?_
      refine ms_259 J (show (25748 : Int) % 41 = 0 from by omega) (show 0 ≤ (25748 : Int) from by omega) (show (25748 : Int) < 27306 from by omega) (show (25748 : Int) % 41 = 0 from by omega) (show 0 ≤ (25748 : Int) from by omega) (show (25748 : Int) < 27306 from by omega) (show 0 ≤ x1.toInt from by omega) (show x1.toInt ≤ 41 from by omega) (show 0 ≤ (x2 - x1).toInt from by omega) (show (x2 - x1).toInt ≤ 41 from by omega) (show 0 ≤ (ps_a s 1164 (Int32.toNatClampNeg x3)).toInt from by omega) (show (ps_a s 1164 (Int32.toNatClampNeg x3)).toInt ≤ 41 from by omega) (fun v21 p21_0 b21 => ?_)
      have p21_0' : v21.toInt = 0 ∨ (ps_a s 1164 (Int32.toNatClampNeg x3)).toInt + (x2 - x1).toInt ≤ (ps_a s 1134 (Int32.toNatClampNeg (25748 : Int32))).toInt := p21_0
      have r22 : (25748 : Int) % 41 = 0 → (25748 : Int) < 27306 → 0 ≤ (ps_a s 1134 (Int32.toNatClampNeg (25748 : Int32))).toInt ∧ (ps_a s 1134 (Int32.toNatClampNeg (25748 : Int32))).toInt ≤ 40 := fun z1 z2 => mp_row (i := (25748 : Int32)) J z1 (show 0 ≤ (25748 : Int) from by omega) z2
      refine And.intro (fun h23 => ?_) (fun h23 => ?_)
      · have f24 : v21.toInt = (0 : Int) := xeq h23
        have a25 : (x3 + 1).toInt = x3.toInt + (1 : Int) := xIa (show -2147483648 ≤ x3.toInt + (1 : Int) from by omega) (show x3.toInt + (1 : Int) < 2147483648 from by omega)
        exact ih (n - 1) (show n - 1 < n from by omega) (x3 + 1) _ J K (show 0 ≤ x1.toInt from by omega) (show x1.toInt ≤ 39 from by omega) (show x1.toInt ≤ x2.toInt from by omega) (show x2.toInt ≤ 40 from by omega) (show (ps_i s 1131 60).toInt ≤ 39 from by omega) (show (ps_i s0 1131 60).toInt = (ps_i s 1131 60).toInt from by omega) (show 0 ≤ (x3 + 1).toInt from by omega) (show (x3 + 1).toInt ≤ (ps_i s 1131 60).toInt from by omega) (show 50 - (x3 + 1).toInt ≤ ((n - 1 : Nat) : Int) from by omega)
      · have f26 : v21.toInt ≠ (0 : Int) := xne h23
        exact k x3 _ J K (show 0 ≤ x3.toInt from by omega) (show x3.toInt ≤ 39 from by omega) (show (ps_i s0 1131 60).toInt ≤ (ps_i s 1131 60).toInt from by omega) (show (ps_i s 1131 60).toInt ≤ (ps_i s0 1131 60).toInt + 1 from by omega)

theorem ms_278 {x : Nat → Nat → Nat} {t : Int32} {s : ps_S} {d : Nat} {x1 : Int32} {x2 : Int32} {f : Int32 → ps_S → Prop} (J : mJ x t s) (q0 : 0 ≤ x1.toInt) (q1 : x1.toInt ≤ 39) (q2 : x1.toInt ≤ x2.toInt) (q3 : x2.toInt ≤ 40) (q4 : (ps_i s 1131 60).toInt ≤ 39) (k : ∀ (v : Int32) (s' : ps_S), mJ x t s' → kp [1164, 1165] [60] s s' → (0 ≤ v.toInt) → (v.toInt ≤ 39) → ((ps_i s 1131 60).toInt ≤ (ps_i s' 1131 60).toInt) → ((ps_i s' 1131 60).toInt ≤ (ps_i s 1131 60).toInt + 1) → f v s') : ps_Cl (d + 2) 278 [.ref 1131, .int x1, .int x2] s (ps_rI f) := by
  have r1 := mf_60 J
  have K : kp [1164, 1165] [60] s s := kp_refl
  refine pg_278_0 (d := d + 1) ?_
  exact ms_278_2 (x1 := x1) (x2 := x2) k  (50 - (0 : Int)).toNat (0) _ J K (show 0 ≤ x1.toInt from by omega) (show x1.toInt ≤ 39 from by omega) (show x1.toInt ≤ x2.toInt from by omega) (show x2.toInt ≤ 40 from by omega) (show (ps_i s 1131 60).toInt ≤ 39 from by omega) (show (ps_i s 1131 60).toInt = (ps_i s 1131 60).toInt from by omega) (show 0 ≤ (0 : Int) from by omega) (show (0 : Int) ≤ (ps_i s 1131 60).toInt from by omega) (show 50 - (0 : Int) ≤ (((50 - (0 : Int)).toNat : Nat) : Int) from by omega)

-- ProofBenchModel.layLetters()V
theorem pg_277_0 {d : Nat} {s : ps_S} {Q : Option Value → ps_S → Prop} (h :
  ps_At (d + 1) 277 12 [(0, .ref 1131), (1, .int 0)] [] (ps_ui (ps_ui s 1131 59 0) 1131 60 0) Q) : ps_At (d + 1) 277 0 [(0, .ref 1131)] [] s Q :=
  ps_wp_at (stops := [(12, [0, 1])]) (n := 10) h rfl

theorem pg_277_12 {d : Nat} {x1 : Int32} {s : ps_S} {Q : Option Value → ps_S → Prop} (h :
  ps_Cl d 219 [.ref 1131, .int 25748] s (ps_rI (fun v1 s1 =>
    (v1 ≤ x1 →
      Q none s1) ∧
    (x1 < v1 →
      ps_Cl d 220 [.ref 1131, .int 25748, .int x1] s1 (ps_rI (fun v2 s2 =>
        (3 < v2 →
          ps_Cl d 221 [.ref 1131, .int 25748, .int x1] s2 (ps_rI (fun v3 s3 =>
            ps_Cl d 278 [.ref 1131, .int x1, .int v3] s3 (ps_rI (fun v4 s4 =>
              ps_nd (pm_in (ps_i s3 1131 59) 41) (ps_At (d + 1) 277 12 [(0, .ref 1131), (1, .int v3)] [] (ps_ui (ps_ua s4 1163 (Int32.toNatClampNeg (ps_i s3 1131 59)) ((100 : Int32) + v4)) 1131 59 ((ps_i (ps_ua s4 1163 (Int32.toNatClampNeg (ps_i s3 1131 59)) ((100 : Int32) + v4)) 1131 59) + 1)) Q)))))) ∧
        (v2 ≤ 3 →
          ps_nd (pm_in (ps_i s2 1131 59) 41) (ps_At (d + 1) 277 12 [(0, .ref 1131), (1, .int (x1 + 1))] [] (ps_ui (ps_ua s2 1163 (Int32.toNatClampNeg (ps_i s2 1131 59)) v2) 1131 59 ((ps_i (ps_ua s2 1163 (Int32.toNatClampNeg (ps_i s2 1131 59)) v2) 1131 59) + 1)) Q)))))))) : ps_At (d + 1) 277 12 [(0, .ref 1131), (1, .int x1)] [] s Q :=
  ps_wp_at (stops := [(12, [0, 1])]) (n := 56) h rfl

theorem ms_277_12 {x : Nat → Nat → Nat} {t : Int32} {d : Nat} {s0 : ps_S} {σ : mSig} {l : List Nat} {Q : Option Value → ps_S → Prop} (k : ∀ (s' : ps_S), mJ x t s' → kp [1163, 1164, 1165] [59, 60] s0 s' → (∃ S : List Nat, Md (ps_a s' 1163) (ps_i s' 1131 59).toInt S ∧ S.length ≤ 40 ∧ pw S 1) → Q none s') : ∀ (n : Nat) (x1 : Int32) (l1 : List Nat) (l2 : List Nat) (kk : Nat) (S : List Nat) (s : ps_S), (mJ x t s) → (kp [1163, 1164, 1165] [59, 60] s0 s) → (Sg (ps_a s 1135) (ps_a s 1136) (ps_a s 1138) (ps_a s 1139) (ps_i s 1131 21).toInt σ) → (Rw (ps_a s 1134) (25748 : Int32).toInt l) → (l = l1 ++ l2) → (x1.toInt = (l1.length : Int)) → (ws σ l2 (List.replicate kk true)) → (Md (ps_a s 1163) (ps_i s 1131 59).toInt S) → (∀ m, pw m kk → pw (S ++ m) 1) → ((ps_i s 1131 59).toInt ≤ x1.toInt) → ((ps_i s 1131 60).toInt ≤ (ps_i s 1131 59).toInt) → (x1.toInt ≤ 40) → (0 ≤ x1.toInt) → 41 - x1.toInt ≤ (n : Int) → ps_At (d + 3) 277 12 [(0, .ref 1131), (1, .int x1)] [] s Q := by
  refine xstr (fun n ih => ?_)
  intro x1 l1 l2 kk S s J K hS hR i2 i3 i4 i5 i6 i7 i8 i9 i10 hm
  have r1 := mf_59 J
  have r2 := mf_60 J
  refine pg_277_12 (d := d + 2) ?_
  have hn : (ps_a s 1134 (Int32.toNatClampNeg (25748 : Int32))).toInt = (l.length : Int) := Rw_n hR
  have hl40 := hR.2.2.2.1
  have hl : (l.length : Int) = l1.length + l2.length := by rw [i2]; exact llen
  have i3 : x1.toInt = (l1.length : Int) := i3
  have hMs : Md (ps_a s 1163) (ps_i s 1131 59).toInt S := i5
  have hSl : (ps_i s 1131 59).toInt = (S.length : Int) := i5.1
  refine pg_219_0 ?_
  refine ps_nd_i (show pm_in (25748 : Int32) 27400 = true from xgi (show 0 ≤ (25748 : Int) from by omega) (show (25748 : Int) < 27400 from by omega)) ?_
  have r3 : (25748 : Int) % 41 = 0 → (25748 : Int) < 27306 → 0 ≤ (ps_a s 1134 (Int32.toNatClampNeg (25748 : Int32))).toInt ∧ (ps_a s 1134 (Int32.toNatClampNeg (25748 : Int32))).toInt ≤ 40 := fun z1 z2 => mp_row (i := (25748 : Int32)) J z1 (show 0 ≤ (25748 : Int) from by omega) z2
  refine And.intro (fun h4 => ?_) (fun h4 => ?_)
  · have f5 : (ps_a s 1134 (Int32.toNatClampNeg (25748 : Int32))).toInt ≤ x1.toInt := xle h4
    have e0 := lnil (W := l2) (by omega)
    subst e0
    have ek := LW_0 i4
    subst ek
    have hS1 := i6 [] rfl
    rw [List.append_nil] at hS1
    exact k _ J K (⟨S, i5, by omega, hS1⟩)
  · have f6 : x1.toInt < (ps_a s 1134 (Int32.toNatClampNeg (25748 : Int32))).toInt := xlt h4
    obtain ⟨c, l3, rfl⟩ := lpos (W := l2) (by omega)
    rw [llenc] at hl
    refine pg_220_0 ?_
    have a7 : ((25748 : Int32) + 1).toInt = (25748 : Int) + (1 : Int) := xIa (show -2147483648 ≤ (25748 : Int) + (1 : Int) from by omega) (show (25748 : Int) + (1 : Int) < 2147483648 from by omega)
    have a8 : (((25748 : Int32) + 1) + x1).toInt = ((25748 : Int32) + 1).toInt + x1.toInt := xIa (show -2147483648 ≤ ((25748 : Int32) + 1).toInt + x1.toInt from by omega) (show ((25748 : Int32) + 1).toInt + x1.toInt < 2147483648 from by omega)
    refine ps_nd_i (show pm_in (((25748 : Int32) + 1) + x1) 27400 = true from xgi (show 0 ≤ (((25748 : Int32) + 1) + x1).toInt from by omega) (show (((25748 : Int32) + 1) + x1).toInt < 27400 from by omega)) ?_
    have r9 : (((25748 : Int32) + 1) + x1).toInt % 41 = 0 → (((25748 : Int32) + 1) + x1).toInt < 27306 → 0 ≤ (ps_a s 1134 (Int32.toNatClampNeg (((25748 : Int32) + 1) + x1))).toInt ∧ (ps_a s 1134 (Int32.toNatClampNeg (((25748 : Int32) + 1) + x1))).toInt ≤ 40 := fun z1 z2 => mp_row (i := (((25748 : Int32) + 1) + x1)) J z1 (show 0 ≤ (((25748 : Int32) + 1) + x1).toInt from by omega) z2
    have hp : ((ps_a s 1134 (Int32.toNatClampNeg (((25748 : Int32) + 1) + x1)))).toInt = (c : Int) := Rw_p hR i2 i3
    refine And.intro (fun h10 => ?_) (fun h10 => ?_)
    · have f11 : (3 : Int) < (ps_a s 1134 (Int32.toNatClampNeg (((25748 : Int32) + 1) + x1))).toInt := xlt h10
      obtain ⟨k2, p, q, hk2, hpq, hw1, hw2⟩ := LW_l i4
      subst hk2
      have hpl := ws_le hw1
      rw [List.length_cons, List.length_nil] at hpl
      have hlq : ((c :: l3).length : Int) = p.length + q.length := by rw [hpq]; exact llen
      rw [llenc] at hlq
      refine ms_221 J hS ((show Rw (ps_a s 1134) (25748 : Int32).toInt (l1 ++ (p ++ q)) from by rw [← hpq, ← i2]; exact hR)) (i3) (hw1) (fun v12 p12_0 => ?_)
      have hv : _ := p12_0
      have hv2 : (v12).toInt = (l1.length : Int) + (p.length : Int) := hv
      refine ms_278 J (show 0 ≤ x1.toInt from by omega) (show x1.toInt ≤ 39 from by omega) (show x1.toInt ≤ v12.toInt from by omega) (show v12.toInt ≤ 40 from by omega) (show (ps_i s 1131 60).toInt ≤ 39 from by omega) (fun v13 s13 J13 K13 p13_0 p13_1 p13_2 p13_3 => ?_)
      have K14 := kpt K K13 rfl rfl
      have hS : Sg (ps_a s13 1135) (ps_a s13 1136) (ps_a s13 1138) (ps_a s13 1139) (ps_i s13 1131 21).toInt σ := by rw [show ps_a s13 1135 = ps_a s 1135 from (K13.2 1135 rfl).1, show ps_a s13 1136 = ps_a s 1136 from (K13.2 1136 rfl).1, show ps_a s13 1138 = ps_a s 1138 from (K13.2 1138 rfl).1, show ps_a s13 1139 = ps_a s 1139 from (K13.2 1139 rfl).1, show ps_i s13 1131 21 = ps_i s 1131 21 from kp_i K13 21 rfl]; exact hS
      have hR : Rw (ps_a s13 1134) (25748 : Int32).toInt l := by rw [show ps_a s13 1134 = ps_a s 1134 from (K13.2 1134 rfl).1]; exact hR
      have hMs : Md (ps_a s13 1163) (ps_i s 1131 59).toInt S := by rw [show ps_a s13 1163 = ps_a s 1163 from (K13.2 1163 rfl).1]; exact hMs
      have p13_0' : 0 ≤ v13.toInt := p13_0
      have p13_1' : v13.toInt ≤ 39 := p13_1
      have p13_2' : (ps_i s 1131 60).toInt ≤ (ps_i s13 1131 60).toInt := p13_2
      have r15 := mf_60 J13
      have p13_3' : (ps_i s13 1131 60).toInt ≤ (ps_i s 1131 60).toInt + 1 := p13_3
      have a16 : ((100 : Int32) + v13).toInt = (100 : Int) + v13.toInt := xIa (show -2147483648 ≤ (100 : Int) + v13.toInt from by omega) (show (100 : Int) + v13.toInt < 2147483648 from by omega)
      obtain ⟨sg, hsg⟩ : ∃ sg : Nat, (((100 : Int32) + v13)).toInt = (sg : Int) := ⟨(((100 : Int32) + v13)).toInt.toNat, by omega⟩
      have hsg2 : 100 ≤ sg := by omega
      refine ps_nd_i (show pm_in (ps_i s 1131 59) 41 = true from xgi (show 0 ≤ (ps_i s 1131 59).toInt from by omega) (show (ps_i s 1131 59).toInt < 41 from by omega)) ?_
      have J17 := mwa_1163 (i := (Int32.toNatClampNeg (ps_i s 1131 59))) (v := ((100 : Int32) + v13)) J13 (show 0 ≤ ((100 : Int32) + v13).toInt from by omega) (show ((100 : Int32) + v13).toInt ≤ 140 from by omega)
      have K18 := kpa' K14 (r := 1163) (i := (Int32.toNatClampNeg (ps_i s 1131 59))) (v := ((100 : Int32) + v13)) rfl
      have hnew : ∃ (m1 m2 : List Nat) (k2 : Nat) (S2 : List Nat), l = m1 ++ m2 ∧ (m1.length : Int) = v12.toInt ∧ ws σ m2 (List.replicate k2 true) ∧ Md (ps_a (ps_ua s13 1163 (Int32.toNatClampNeg (ps_i s 1131 59)) ((100 : Int32) + v13)) 1163) ((ps_i s 1131 59).toInt + 1) S2 ∧ (∀ m, pw m k2 → pw (S2 ++ m) 1) := ⟨l1 ++ p, q, k2, S ++ [sg], (by rw [List.append_assoc, ← hpq]; exact i2), (by rw [llen]; omega), hw2, Md_w hMs (by omega) hsg, (by have z := pw_snoc (c := sg) i6 (Or.inr hsg2); rw [if_neg (by omega)] at z; exact z)⟩
      have r19 := mf_59 J13
      have u20 : (ps_i s13 1131 59).toInt = (ps_i s 1131 59).toInt := xeq (kp_i K13 59 rfl)
      have a21 : ((ps_i s13 1131 59) + 1).toInt = (ps_i s13 1131 59).toInt + (1 : Int) := xIa (show -2147483648 ≤ (ps_i s13 1131 59).toInt + (1 : Int) from by omega) (show (ps_i s13 1131 59).toInt + (1 : Int) < 2147483648 from by omega)
      have J22 := mwi_59 (v := ((ps_i s13 1131 59) + 1)) J17 (show 0 ≤ ((ps_i s13 1131 59) + 1).toInt from by omega) (show ((ps_i s13 1131 59) + 1).toInt ≤ 40 from by omega)
      have K23 := kpi K18 (q := 59) (v := ((ps_i s13 1131 59) + 1)) rfl
      obtain ⟨m1, m2, k2, S2, e1, e2, e3, e4, e5⟩ := hnew
      have hl2 : (l.length : Int) = m1.length + m2.length := by rw [e1]; exact llen
      exact ih (n - 1) (show n - 1 < n from by omega) v12 m1 m2 k2 S2 _ J22 K23 hS hR (e1) ((show v12.toInt = (m1.length : Int) from by omega)) (e3) (Md_n e4 (show ((ps_i s13 1131 59) + 1).toInt = (ps_i s 1131 59).toInt + 1 from by omega)) (e5) (show ((ps_i s13 1131 59) + 1).toInt ≤ v12.toInt from by omega) (show (ps_i s13 1131 60).toInt ≤ ((ps_i s13 1131 59) + 1).toInt from by omega) (show v12.toInt ≤ 40 from by omega) (show 0 ≤ v12.toInt from by omega) (show 41 - v12.toInt ≤ ((n - 1 : Nat) : Int) from by omega)
    · have f24 : (ps_a s 1134 (Int32.toNatClampNeg (((25748 : Int32) + 1) + x1))).toInt ≤ (3 : Int) := xle h10
      refine ps_nd_i (show pm_in (ps_i s 1131 59) 41 = true from xgi (show 0 ≤ (ps_i s 1131 59).toInt from by omega) (show (ps_i s 1131 59).toInt < 41 from by omega)) ?_
      have J25 := mwa_1163 (i := (Int32.toNatClampNeg (ps_i s 1131 59))) (v := (ps_a s 1134 (Int32.toNatClampNeg (((25748 : Int32) + 1) + x1)))) J (show 0 ≤ (ps_a s 1134 (Int32.toNatClampNeg (((25748 : Int32) + 1) + x1))).toInt from by omega) (show (ps_a s 1134 (Int32.toNatClampNeg (((25748 : Int32) + 1) + x1))).toInt ≤ 140 from by omega)
      have K26 := kpa' K (r := 1163) (i := (Int32.toNatClampNeg (ps_i s 1131 59))) (v := (ps_a s 1134 (Int32.toNatClampNeg (((25748 : Int32) + 1) + x1)))) rfl
      obtain ⟨k2, hk2, hw2⟩ := LW_c i4 (by omega)
      subst hk2
      have hnew : ∃ (m1 m2 : List Nat) (k2 : Nat) (S2 : List Nat), l = m1 ++ m2 ∧ (m1.length : Int) = x1.toInt + 1 ∧ ws σ m2 (List.replicate k2 true) ∧ Md (ps_a (ps_ua s 1163 (Int32.toNatClampNeg (ps_i s 1131 59)) (ps_a s 1134 (Int32.toNatClampNeg (((25748 : Int32) + 1) + x1)))) 1163) ((ps_i s 1131 59).toInt + 1) S2 ∧ (∀ m, pw m k2 → pw (S2 ++ m) 1) := ⟨l1 ++ [c], l3, _, S ++ [c], i2.trans (lcat l1 c l3), (by rw [l1c]; omega), hw2, Md_w hMs (by omega) hp, pw_snoc i6 (Or.inl (by omega))⟩
      have a27 : (x1 + 1).toInt = x1.toInt + (1 : Int) := xIa (show -2147483648 ≤ x1.toInt + (1 : Int) from by omega) (show x1.toInt + (1 : Int) < 2147483648 from by omega)
      have a28 : ((ps_i s 1131 59) + 1).toInt = (ps_i s 1131 59).toInt + (1 : Int) := xIa (show -2147483648 ≤ (ps_i s 1131 59).toInt + (1 : Int) from by omega) (show (ps_i s 1131 59).toInt + (1 : Int) < 2147483648 from by omega)
      have J29 := mwi_59 (v := ((ps_i s 1131 59) + 1)) J25 (show 0 ≤ ((ps_i s 1131 59) + 1).toInt from by omega) (show ((ps_i s 1131 59) + 1).toInt ≤ 40 from by omega)
      have K30 := kpi K26 (q := 59) (v := ((ps_i s 1131 59) + 1)) rfl
      obtain ⟨m1, m2, k2, S2, e1, e2, e3, e4, e5⟩ := hnew
      have hl2 : (l.length : Int) = m1.length + m2.length := by rw [e1]; exact llen
      exact ih (n - 1) (show n - 1 < n from by omega) (x1 + 1) m1 m2 k2 S2 _ J29 K30 hS hR (e1) ((show (x1 + 1).toInt = (m1.length : Int) from by omega)) (e3) (Md_n e4 (show ((ps_i s 1131 59) + 1).toInt = (ps_i s 1131 59).toInt + 1 from by omega)) (e5) (show ((ps_i s 1131 59) + 1).toInt ≤ (x1 + 1).toInt from by omega) (show (ps_i s 1131 60).toInt ≤ ((ps_i s 1131 59) + 1).toInt from by omega) (show (x1 + 1).toInt ≤ 40 from by omega) (show 0 ≤ (x1 + 1).toInt from by omega) (show 41 - (x1 + 1).toInt ≤ ((n - 1 : Nat) : Int) from by omega)

theorem ms_277 {x : Nat → Nat → Nat} {t : Int32} {s : ps_S} {d : Nat} {f : ps_S → Prop} (J : mJ x t s) {σ : mSig} {l : List Nat} (hS : Sg (ps_a s 1135) (ps_a s 1136) (ps_a s 1138) (ps_a s 1139) (ps_i s 1131 21).toInt σ) (hR : Rw (ps_a s 1134) (25748 : Int32).toInt l) (q2 : ws σ l [true]) (k : ∀ (s' : ps_S), mJ x t s' → kp [1163, 1164, 1165] [59, 60] s s' → (∃ S : List Nat, Md (ps_a s' 1163) (ps_i s' 1131 59).toInt S ∧ S.length ≤ 40 ∧ pw S 1) → f s') : ps_Cl (d + 3) 277 [.ref 1131] s (ps_rV f) := by
  have K : kp [1163, 1164, 1165] [59, 60] s s := kp_refl
  refine pg_277_0 (d := d + 2) ?_
  have J1 := mwi_59 (v := (0 : Int32)) J (show 0 ≤ (0 : Int) from by omega) (show (0 : Int) ≤ 40 from by omega)
  have K2 := kpi K (q := 59) (v := (0 : Int32)) rfl
  have J3 := mwi_60 (v := (0 : Int32)) J1 (show 0 ≤ (0 : Int) from by omega) (show (0 : Int) ≤ 40 from by omega)
  have K4 := kpi K2 (q := 60) (v := (0 : Int32)) rfl
  exact ms_277_12 (σ := σ) (l := l) k  (41 - (0 : Int)).toNat (0) [] l 1 [] _ J3 K4 hS hR (rfl) ((by rw [Int32.toInt_zero]; rfl)) (q2) (Md_nil (by rfl)) ((fun m hm => hm)) (show (0 : Int) ≤ (0 : Int) from by omega) (show (0 : Int) ≤ (0 : Int) from by omega) (show (0 : Int) ≤ 40 from by omega) (show 0 ≤ (0 : Int) from by omega) (show 41 - (0 : Int) ≤ (((41 - (0 : Int)).toNat : Nat) : Int) from by omega)
end
