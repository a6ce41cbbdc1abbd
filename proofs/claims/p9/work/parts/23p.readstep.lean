set_option maxRecDepth 100000
-- ProofBenchModel.readStep()V
theorem pg_238_0 {d : Nat} {s : ps_S} {Q : Option Value → ps_S → Prop} (h :
  ps_Cl d 233 [.ref 1131] s (ps_rI (fun v1 s1 =>
    (v1 < 0 →
      ps_At (d + 1) 238 20 [(0, .ref 1131), (1, .int (ps_i s 1131 42)), (2, .int v1)] [] s1 Q) ∧
    (0 ≤ v1 →
      ((ps_i s 1131 42) ≠ 40 →
        ps_At (d + 1) 238 24 [(0, .ref 1131), (1, .int (ps_i s 1131 42)), (2, .int v1)] [] s1 Q) ∧
      ((ps_i s 1131 42) = 40 →
        ps_At (d + 1) 238 20 [(0, .ref 1131), (1, .int (ps_i s 1131 42)), (2, .int v1)] [] s1 Q))))) : ps_At (d + 1) 238 0 [(0, .ref 1131)] [] s Q :=
  ps_wp_at (stops := [(20, [0, 1, 2]), (24, [0, 1, 2]), (53, [0, 1, 2]), (70, [0, 1, 2]), (88, [0, 1, 2]), (106, [0, 1, 2]), (134, [0, 1, 2]), (162, [0, 1, 2]), (181, [0, 1]), (205, [0]), (216, [0])]) (n := 13) h rfl

theorem pg_238_20 {d : Nat} {x1 : Int32} {x2 : Int32} {s : ps_S} {Q : Option Value → ps_S → Prop} (h :
  ps_Cl d 196 [.ref 1131] s (ps_rV (fun s1 =>
    ps_At (d + 1) 238 24 [(0, .ref 1131), (1, .int x1), (2, .int x2)] [] s1 Q))) : ps_At (d + 1) 238 20 [(0, .ref 1131), (1, .int x1), (2, .int x2)] [] s Q :=
  ps_wp_at (stops := [(20, [0, 1, 2]), (24, [0, 1, 2]), (53, [0, 1, 2]), (70, [0, 1, 2]), (88, [0, 1, 2]), (106, [0, 1, 2]), (134, [0, 1, 2]), (162, [0, 1, 2]), (181, [0, 1]), (205, [0]), (216, [0])]) (n := 4) h rfl

theorem pg_238_24 {d : Nat} {x1 : Int32} {x2 : Int32} {s : ps_S} {Q : Option Value → ps_S → Prop} (h :
  ps_Cl d 192 [.ref 1131] s (ps_rI (fun v1 s1 =>
    (v1 ≠ 0 →
      ps_Cl d 194 [.ref 1131] s1 (ps_rV (fun s2 =>
        ps_nd (pm_in x1 40) ((x2 ≠ 1 →
          ps_At (d + 1) 238 53 [(0, .ref 1131), (1, .int x1), (2, .int x2)] [] (ps_ua s2 1152 (Int32.toNatClampNeg x1) x2) Q) ∧
        (x2 = 1 →
          ps_Cl d 239 [.ref 1131, .int x1] (ps_ua s2 1152 (Int32.toNatClampNeg x1) x2) (ps_rV (fun s3 =>
            ps_At (d + 1) 238 53 [(0, .ref 1131), (1, .int x1), (2, .int x2)] [] s3 Q))))))) ∧
    (v1 = 0 →
      Q none s1)))) : ps_At (d + 1) 238 24 [(0, .ref 1131), (1, .int x1), (2, .int x2)] [] s Q :=
  ps_wp_at (stops := [(20, [0, 1, 2]), (24, [0, 1, 2]), (53, [0, 1, 2]), (70, [0, 1, 2]), (88, [0, 1, 2]), (106, [0, 1, 2]), (134, [0, 1, 2]), (162, [0, 1, 2]), (181, [0, 1]), (205, [0]), (216, [0])]) (n := 19) h rfl

theorem pg_238_53 {d : Nat} {x1 : Int32} {x2 : Int32} {s : ps_S} {Q : Option Value → ps_S → Prop} (h :
  ps_Cl d 234 [.int x2] s (ps_rI (fun v1 s1 =>
    (v1 ≤ 0 →
      ps_At (d + 1) 238 70 [(0, .ref 1131), (1, .int x1), (2, .int x2)] [] s1 Q) ∧
    (0 < v1 →
      ps_Cl d 237 [.ref 1131] s1 (ps_rI (fun v2 s2 =>
        ps_nd (pm_in x1 40) (ps_At (d + 1) 238 70 [(0, .ref 1131), (1, .int x1), (2, .int x2)] [] (ps_ua s2 1153 (Int32.toNatClampNeg x1) v2) Q))))))) : ps_At (d + 1) 238 53 [(0, .ref 1131), (1, .int x1), (2, .int x2)] [] s Q :=
  ps_wp_at (stops := [(20, [0, 1, 2]), (24, [0, 1, 2]), (53, [0, 1, 2]), (70, [0, 1, 2]), (88, [0, 1, 2]), (106, [0, 1, 2]), (134, [0, 1, 2]), (162, [0, 1, 2]), (181, [0, 1]), (205, [0]), (216, [0])]) (n := 11) h rfl

theorem pg_238_70 {d : Nat} {x1 : Int32} {x2 : Int32} {s : ps_S} {Q : Option Value → ps_S → Prop} (h :
  ps_Cl d 234 [.int x2] s (ps_rI (fun v1 s1 =>
    (v1 ≤ 1 →
      ps_At (d + 1) 238 88 [(0, .ref 1131), (1, .int x1), (2, .int x2)] [] s1 Q) ∧
    (1 < v1 →
      ps_Cl d 237 [.ref 1131] s1 (ps_rI (fun v2 s2 =>
        ps_nd (pm_in x1 40) (ps_At (d + 1) 238 88 [(0, .ref 1131), (1, .int x1), (2, .int x2)] [] (ps_ua s2 1154 (Int32.toNatClampNeg x1) v2) Q))))))) : ps_At (d + 1) 238 70 [(0, .ref 1131), (1, .int x1), (2, .int x2)] [] s Q :=
  ps_wp_at (stops := [(20, [0, 1, 2]), (24, [0, 1, 2]), (53, [0, 1, 2]), (70, [0, 1, 2]), (88, [0, 1, 2]), (106, [0, 1, 2]), (134, [0, 1, 2]), (162, [0, 1, 2]), (181, [0, 1]), (205, [0]), (216, [0])]) (n := 12) h rfl

theorem pg_238_88 {d : Nat} {x1 : Int32} {x2 : Int32} {s : ps_S} {Q : Option Value → ps_S → Prop} (h :
  ps_Cl d 234 [.int x2] s (ps_rI (fun v1 s1 =>
    (v1 ≤ 2 →
      ps_At (d + 1) 238 106 [(0, .ref 1131), (1, .int x1), (2, .int x2)] [] s1 Q) ∧
    (2 < v1 →
      ps_Cl d 237 [.ref 1131] s1 (ps_rI (fun v2 s2 =>
        ps_nd (pm_in x1 40) (ps_At (d + 1) 238 106 [(0, .ref 1131), (1, .int x1), (2, .int x2)] [] (ps_ua s2 1155 (Int32.toNatClampNeg x1) v2) Q))))))) : ps_At (d + 1) 238 88 [(0, .ref 1131), (1, .int x1), (2, .int x2)] [] s Q :=
  ps_wp_at (stops := [(20, [0, 1, 2]), (24, [0, 1, 2]), (53, [0, 1, 2]), (70, [0, 1, 2]), (88, [0, 1, 2]), (106, [0, 1, 2]), (134, [0, 1, 2]), (162, [0, 1, 2]), (181, [0, 1]), (205, [0]), (216, [0])]) (n := 12) h rfl

theorem pg_238_106 {d : Nat} {x1 : Int32} {x2 : Int32} {s : ps_S} {Q : Option Value → ps_S → Prop} (h :
  ps_Cl d 192 [.ref 1131] s (ps_rI (fun v1 s1 =>
    (v1 = 0 →
      ps_At (d + 1) 238 134 [(0, .ref 1131), (1, .int x1), (2, .int x2)] [] s1 Q) ∧
    (v1 ≠ 0 →
      ps_Cl d 235 [.int x2] s1 (ps_rI (fun v2 s2 =>
        (v2 = 0 →
          ps_At (d + 1) 238 134 [(0, .ref 1131), (1, .int x1), (2, .int x2)] [] s2 Q) ∧
        (v2 ≠ 0 →
          ps_Cl d 209 [.ref 1131, .int ((24108 : Int32) + ((41 : Int32) * x1)), .int 0, .int 0] s2 (ps_rV (fun s3 =>
            ps_At (d + 1) 238 134 [(0, .ref 1131), (1, .int x1), (2, .int x2)] [] s3 Q))))))))) : ps_At (d + 1) 238 106 [(0, .ref 1131), (1, .int x1), (2, .int x2)] [] s Q :=
  ps_wp_at (stops := [(20, [0, 1, 2]), (24, [0, 1, 2]), (53, [0, 1, 2]), (70, [0, 1, 2]), (88, [0, 1, 2]), (106, [0, 1, 2]), (134, [0, 1, 2]), (162, [0, 1, 2]), (181, [0, 1]), (205, [0]), (216, [0])]) (n := 17) h rfl

theorem pg_238_134 {d : Nat} {x1 : Int32} {x2 : Int32} {s : ps_S} {Q : Option Value → ps_S → Prop} (h :
  ps_Cl d 192 [.ref 1131] s (ps_rI (fun v1 s1 =>
    (v1 = 0 →
      ps_At (d + 1) 238 162 [(0, .ref 1131), (1, .int x1), (2, .int x2)] [] s1 Q) ∧
    (v1 ≠ 0 →
      ps_Cl d 236 [.int x2] s1 (ps_rI (fun v2 s2 =>
        (v2 = 0 →
          ps_At (d + 1) 238 162 [(0, .ref 1131), (1, .int x1), (2, .int x2)] [] s2 Q) ∧
        (v2 ≠ 0 →
          ps_Cl d 209 [.ref 1131, .int ((22468 : Int32) + ((41 : Int32) * x1)), .int 1, .int 0] s2 (ps_rV (fun s3 =>
            ps_At (d + 1) 238 162 [(0, .ref 1131), (1, .int x1), (2, .int x2)] [] s3 Q))))))))) : ps_At (d + 1) 238 134 [(0, .ref 1131), (1, .int x1), (2, .int x2)] [] s Q :=
  ps_wp_at (stops := [(20, [0, 1, 2]), (24, [0, 1, 2]), (53, [0, 1, 2]), (70, [0, 1, 2]), (88, [0, 1, 2]), (106, [0, 1, 2]), (134, [0, 1, 2]), (162, [0, 1, 2]), (181, [0, 1]), (205, [0]), (216, [0])]) (n := 17) h rfl

theorem pg_238_162 {d : Nat} {x1 : Int32} {x2 : Int32} {s : ps_S} {Q : Option Value → ps_S → Prop} (h :
  ps_Cl d 192 [.ref 1131] s (ps_rI (fun v1 s1 =>
    (v1 = 0 →
      ps_At (d + 1) 238 216 [(0, .ref 1131)] [] s1 Q) ∧
    (v1 ≠ 0 →
      (x2 = 11 →
        ps_At (d + 1) 238 181 [(0, .ref 1131), (1, .int x1)] [] s1 Q) ∧
      (x2 ≠ 11 →
        (x2 ≠ 14 →
          ps_At (d + 1) 238 216 [(0, .ref 1131)] [] s1 Q) ∧
        (x2 = 14 →
          ps_At (d + 1) 238 181 [(0, .ref 1131), (1, .int x1)] [] s1 Q)))))) : ps_At (d + 1) 238 162 [(0, .ref 1131), (1, .int x1), (2, .int x2)] [] s Q :=
  ps_wp_at (stops := [(20, [0, 1, 2]), (24, [0, 1, 2]), (53, [0, 1, 2]), (70, [0, 1, 2]), (88, [0, 1, 2]), (106, [0, 1, 2]), (134, [0, 1, 2]), (162, [0, 1, 2]), (181, [0, 1]), (205, [0]), (216, [0])]) (n := 11) h rfl

theorem pg_238_181 {d : Nat} {x1 : Int32} {s : ps_S} {Q : Option Value → ps_S → Prop} (h :
  ps_Cl d 208 [.ref 1131] s (ps_rI (fun v1 s1 =>
    (v1 ≠ 0 →
      ps_Cl d 217 [.ref 1131] s1 (ps_rI (fun v2 s2 =>
        ps_nd (pm_in x1 40) (ps_At (d + 1) 238 205 [(0, .ref 1131)] [] (ps_ua s2 1156 (Int32.toNatClampNeg x1) v2) Q)))) ∧
    (v1 = 0 →
      ps_Cl d 196 [.ref 1131] s1 (ps_rV (fun s3 =>
        ps_At (d + 1) 238 205 [(0, .ref 1131)] [] s3 Q)))))) : ps_At (d + 1) 238 181 [(0, .ref 1131), (1, .int x1)] [] s Q :=
  ps_wp_at (stops := [(20, [0, 1, 2]), (24, [0, 1, 2]), (53, [0, 1, 2]), (70, [0, 1, 2]), (88, [0, 1, 2]), (106, [0, 1, 2]), (134, [0, 1, 2]), (162, [0, 1, 2]), (181, [0, 1]), (205, [0]), (216, [0])]) (n := 14) h rfl

theorem pg_238_205 {d : Nat} {s : ps_S} {Q : Option Value → ps_S → Prop} (h :
  ps_Cl d 192 [.ref 1131] s (ps_rI (fun v1 s1 =>
    (v1 = 0 →
      ps_At (d + 1) 238 216 [(0, .ref 1131)] [] s1 Q) ∧
    (v1 ≠ 0 →
      ps_Cl d 194 [.ref 1131] s1 (ps_rV (fun s2 =>
        ps_At (d + 1) 238 216 [(0, .ref 1131)] [] s2 Q)))))) : ps_At (d + 1) 238 205 [(0, .ref 1131)] [] s Q :=
  ps_wp_at (stops := [(20, [0, 1, 2]), (24, [0, 1, 2]), (53, [0, 1, 2]), (70, [0, 1, 2]), (88, [0, 1, 2]), (106, [0, 1, 2]), (134, [0, 1, 2]), (162, [0, 1, 2]), (181, [0, 1]), (205, [0]), (216, [0])]) (n := 7) h rfl

theorem pg_238_216 {d : Nat} {s : ps_S} {Q : Option Value → ps_S → Prop} (h :
  ((ps_i s 1131 9) ≠ 5 →
    ps_Cl d 197 [.ref 1131, .int 0] s (ps_rV (fun s1 =>
      Q none (ps_ui s1 1131 42 ((ps_i s1 1131 42) + 1))))) ∧
  ((ps_i s 1131 9) = 5 →
    ps_Cl d 197 [.ref 1131, .int 1] s (ps_rV (fun s2 =>
      Q none (ps_ui s2 1131 42 ((ps_i s2 1131 42) + 1)))))) : ps_At (d + 1) 238 216 [(0, .ref 1131)] [] s Q :=
  ps_wp_at (stops := [(20, [0, 1, 2]), (24, [0, 1, 2]), (53, [0, 1, 2]), (70, [0, 1, 2]), (88, [0, 1, 2]), (106, [0, 1, 2]), (134, [0, 1, 2]), (162, [0, 1, 2]), (181, [0, 1]), (205, [0]), (216, [0])]) (n := 26) h rfl

theorem ms_238_216 {x : Nat → Nat → Nat} {t : Int32} {d : Nat} {s0 : ps_S} {σ : mSig} {ax n0 : Int} {Q : Option Value → ps_S → Prop} (k : ∀ (s' : ps_S), mJ x t s' → kp [1134, 1143, 1144, 1145, 1146, 1147, 1148, 1152, 1153, 1154, 1155, 1156] [5, 6, 7, 8, 9, 10, 11, 23, 29, 30, 31, 32, 42] s0 s' → ((ps_i s' 1131 8).toInt ≤ (ps_i s' 1131 4).toInt) → (1 ≤ (ps_i s' 1131 5).toInt ∨ SRs σ (ps_a s' 1134) (ps_a s' 1152) (ps_a s' 1153) ax (ps_i s' 1131 42).toInt) → (∀ k : Nat, (k : Int) < 22468 ∨ 25748 ≤ (k : Int) → ps_a s' 1134 k = ps_a s0 1134 k) → (1 ≤ (ps_i s' 1131 5).toInt ∨ (ps_i s' 1131 42).toInt = (ps_i s0 1131 42).toInt + 1) → ((ps_i s0 1131 42).toInt ≤ (ps_i s' 1131 42).toInt) → Q none s') (s : ps_S) (J : mJ x t s) (K : kp [1134, 1143, 1144, 1145, 1146, 1147, 1148, 1152, 1153, 1154, 1155, 1156] [5, 6, 7, 8, 9, 10, 11, 23, 29, 30, 31, 32, 42] s0 s) (hFR : ∀ k : Nat, (k : Int) < 22468 ∨ 25748 ≤ (k : Int) → ps_a s 1134 k = ps_a s0 1134 k) (i1 : (ps_i s 1131 8).toInt ≤ (ps_i s 1131 4).toInt) (i2 : 1 ≤ (ps_i s 1131 5).toInt ∨ SRs σ (ps_a s 1134) (ps_a s 1152) (ps_a s 1153) ax (n0 + 1)) (i3 : (ps_i s 1131 42).toInt = n0) (i4 : (ps_i s 1131 42).toInt = (ps_i s0 1131 42).toInt) (i5 : (ps_i s 1131 42).toInt < 40) (i6 : 0 ≤ (ps_i s 1131 42).toInt) : ps_At (d + 6) 238 216 [(0, .ref 1131)] [] s Q := by
  have r1 := mf_8 J
  have r2 := mf_4 J
  have r3 := mf_42 J
  refine pg_238_216 (d := d + 5) ?_
  have hI : 1 ≤ (ps_i s 1131 5).toInt ∨ SRs σ (ps_a s 1134) (ps_a s 1152) (ps_a s 1153) ax (n0 + 1) := i2
  have r4 := mf_9 J
  refine And.intro (fun h5 => ?_) (fun h5 => ?_)
  · have f6 : (ps_i s 1131 9).toInt ≠ (5 : Int) := xne h5
    refine ms_197 J (show (ps_i s 1131 8).toInt ≤ (ps_i s 1131 4).toInt from by omega) (fun s7 J7 K7 p7_0 p7_1 p7_2 => ?_)
    have K8 := kpt K K7 rfl rfl
    have KC := K7
    have hFR : ∀ k : Nat, (k : Int) < 22468 ∨ 25748 ≤ (k : Int) → ps_a s7 1134 k = ps_a s0 1134 k := by rw [show ps_a s7 1134 = ps_a s 1134 from (K7.2 1134 rfl).1]; exact hFR
    have hI : 1 ≤ (ps_i s 1131 5).toInt ∨ SRs σ (ps_a s7 1134) (ps_a s7 1152) (ps_a s7 1153) ax (n0 + 1) := by rw [show ps_a s7 1134 = ps_a s 1134 from (K7.2 1134 rfl).1, show ps_a s7 1152 = ps_a s 1152 from (K7.2 1152 rfl).1, show ps_a s7 1153 = ps_a s 1153 from (K7.2 1153 rfl).1]; exact hI
    have p7_0' : (ps_i s7 1131 8).toInt ≤ (ps_i s7 1131 4).toInt := p7_0
    have r9 := mf_8 J7
    have r10 := mf_4 J7
    have u11 : (ps_i s7 1131 4).toInt = (ps_i s 1131 4).toInt := xeq (kp_i K7 4 rfl)
    have p7_1' : 1 ≤ (ps_i s 1131 5).toInt → 1 ≤ (ps_i s7 1131 5).toInt := p7_1
    have r12 := mf_5 J7
    have r13 := mf_5 J
    have p7_2' : (0 : Int) = 0 → 1 ≤ (ps_i s7 1131 5).toInt := p7_2
    have r14 := mf_42 J7
    have u15 : (ps_i s7 1131 42).toInt = (ps_i s 1131 42).toInt := xeq (kp_i K7 42 rfl)
    have a16 : ((ps_i s7 1131 42) + 1).toInt = (ps_i s7 1131 42).toInt + (1 : Int) := xIa (show -2147483648 ≤ (ps_i s7 1131 42).toInt + (1 : Int) from by omega) (show (ps_i s7 1131 42).toInt + (1 : Int) < 2147483648 from by omega)
    have J17 := mwi_42 (v := ((ps_i s7 1131 42) + 1)) J7 (show 0 ≤ ((ps_i s7 1131 42) + 1).toInt from by omega) (show ((ps_i s7 1131 42) + 1).toInt ≤ 40 from by omega)
    have K18 := kpi K8 (q := 42) (v := ((ps_i s7 1131 42) + 1)) rfl
    exact k _ J17 K18 (show (ps_i s7 1131 8).toInt ≤ (ps_i s7 1131 4).toInt from by omega) (hI.elim (fun z => Or.inl (show 1 ≤ (ps_i s7 1131 5).toInt from by omega)) (fun z => Or.inr (SRs_n z (show ((ps_i s7 1131 42) + 1).toInt = n0 + 1 from by omega) rfl))) (hFR) (show 1 ≤ (ps_i s7 1131 5).toInt ∨ ((ps_i s7 1131 42) + 1).toInt = (ps_i s0 1131 42).toInt + 1 from by omega) (show (ps_i s0 1131 42).toInt ≤ ((ps_i s7 1131 42) + 1).toInt from by omega)
  · have f19 : (ps_i s 1131 9).toInt = (5 : Int) := xeq h5
    refine ms_197 J (show (ps_i s 1131 8).toInt ≤ (ps_i s 1131 4).toInt from by omega) (fun s20 J20 K20 p20_0 p20_1 p20_2 => ?_)
    have K21 := kpt K K20 rfl rfl
    have KC := K20
    have hFR : ∀ k : Nat, (k : Int) < 22468 ∨ 25748 ≤ (k : Int) → ps_a s20 1134 k = ps_a s0 1134 k := by rw [show ps_a s20 1134 = ps_a s 1134 from (K20.2 1134 rfl).1]; exact hFR
    have hI : 1 ≤ (ps_i s 1131 5).toInt ∨ SRs σ (ps_a s20 1134) (ps_a s20 1152) (ps_a s20 1153) ax (n0 + 1) := by rw [show ps_a s20 1134 = ps_a s 1134 from (K20.2 1134 rfl).1, show ps_a s20 1152 = ps_a s 1152 from (K20.2 1152 rfl).1, show ps_a s20 1153 = ps_a s 1153 from (K20.2 1153 rfl).1]; exact hI
    have p20_0' : (ps_i s20 1131 8).toInt ≤ (ps_i s20 1131 4).toInt := p20_0
    have r22 := mf_8 J20
    have r23 := mf_4 J20
    have u24 : (ps_i s20 1131 4).toInt = (ps_i s 1131 4).toInt := xeq (kp_i K20 4 rfl)
    have p20_1' : 1 ≤ (ps_i s 1131 5).toInt → 1 ≤ (ps_i s20 1131 5).toInt := p20_1
    have r25 := mf_5 J20
    have r26 := mf_5 J
    have p20_2' : (1 : Int) = 0 → 1 ≤ (ps_i s20 1131 5).toInt := p20_2
    have r27 := mf_42 J20
    have u28 : (ps_i s20 1131 42).toInt = (ps_i s 1131 42).toInt := xeq (kp_i K20 42 rfl)
    have a29 : ((ps_i s20 1131 42) + 1).toInt = (ps_i s20 1131 42).toInt + (1 : Int) := xIa (show -2147483648 ≤ (ps_i s20 1131 42).toInt + (1 : Int) from by omega) (show (ps_i s20 1131 42).toInt + (1 : Int) < 2147483648 from by omega)
    have J30 := mwi_42 (v := ((ps_i s20 1131 42) + 1)) J20 (show 0 ≤ ((ps_i s20 1131 42) + 1).toInt from by omega) (show ((ps_i s20 1131 42) + 1).toInt ≤ 40 from by omega)
    have K31 := kpi K21 (q := 42) (v := ((ps_i s20 1131 42) + 1)) rfl
    exact k _ J30 K31 (show (ps_i s20 1131 8).toInt ≤ (ps_i s20 1131 4).toInt from by omega) (hI.elim (fun z => Or.inl (show 1 ≤ (ps_i s20 1131 5).toInt from by omega)) (fun z => Or.inr (SRs_n z (show ((ps_i s20 1131 42) + 1).toInt = n0 + 1 from by omega) rfl))) (hFR) (show 1 ≤ (ps_i s20 1131 5).toInt ∨ ((ps_i s20 1131 42) + 1).toInt = (ps_i s0 1131 42).toInt + 1 from by omega) (show (ps_i s0 1131 42).toInt ≤ ((ps_i s20 1131 42) + 1).toInt from by omega)

theorem ms_238_205 {x : Nat → Nat → Nat} {t : Int32} {d : Nat} {s0 : ps_S} {σ : mSig} {ax n0 : Int} {Q : Option Value → ps_S → Prop} (k : ∀ (s' : ps_S), mJ x t s' → kp [1134, 1143, 1144, 1145, 1146, 1147, 1148, 1152, 1153, 1154, 1155, 1156] [5, 6, 7, 8, 9, 10, 11, 23, 29, 30, 31, 32, 42] s0 s' → ((ps_i s' 1131 8).toInt ≤ (ps_i s' 1131 4).toInt) → (1 ≤ (ps_i s' 1131 5).toInt ∨ SRs σ (ps_a s' 1134) (ps_a s' 1152) (ps_a s' 1153) ax (ps_i s' 1131 42).toInt) → (∀ k : Nat, (k : Int) < 22468 ∨ 25748 ≤ (k : Int) → ps_a s' 1134 k = ps_a s0 1134 k) → (1 ≤ (ps_i s' 1131 5).toInt ∨ (ps_i s' 1131 42).toInt = (ps_i s0 1131 42).toInt + 1) → ((ps_i s0 1131 42).toInt ≤ (ps_i s' 1131 42).toInt) → Q none s') (s : ps_S) (J : mJ x t s) (K : kp [1134, 1143, 1144, 1145, 1146, 1147, 1148, 1152, 1153, 1154, 1155, 1156] [5, 6, 7, 8, 9, 10, 11, 23, 29, 30, 31, 32, 42] s0 s) (hFR : ∀ k : Nat, (k : Int) < 22468 ∨ 25748 ≤ (k : Int) → ps_a s 1134 k = ps_a s0 1134 k) (i1 : (ps_i s 1131 8).toInt ≤ (ps_i s 1131 4).toInt) (i2 : 1 ≤ (ps_i s 1131 5).toInt ∨ SRs σ (ps_a s 1134) (ps_a s 1152) (ps_a s 1153) ax (n0 + 1)) (i3 : (ps_i s 1131 42).toInt = n0) (i4 : (ps_i s 1131 42).toInt = (ps_i s0 1131 42).toInt) (i5 : (ps_i s 1131 42).toInt < 40) (i6 : 0 ≤ (ps_i s 1131 42).toInt) : ps_At (d + 6) 238 205 [(0, .ref 1131)] [] s Q := by
  have r1 := mf_8 J
  have r2 := mf_4 J
  have r3 := mf_42 J
  refine pg_238_205 (d := d + 5) ?_
  have hI2 : 1 ≤ (ps_i s 1131 5).toInt ∨ SRs σ (ps_a s 1134) (ps_a s 1152) (ps_a s 1153) ax (n0 + 1) := i2
  refine ms_192 J  (fun v4 p4_0 b4 => ?_)
  have p4_0' : (v4.toInt = 0 ∧ 1 ≤ (ps_i s 1131 5).toInt) ∨ (v4.toInt = 1 ∧ (ps_i s 1131 5).toInt = 0) := p4_0
  have r5 := mf_5 J
  refine And.intro (fun h6 => ?_) (fun h6 => ?_)
  · have f7 : v4.toInt = (0 : Int) := xeq h6
    exact ms_238_216 (σ := σ) (ax := ax) (n0 := n0) k   _ J K hFR (show (ps_i s 1131 8).toInt ≤ (ps_i s 1131 4).toInt from by omega) (i2) (show (ps_i s 1131 42).toInt = n0 from by omega) (show (ps_i s 1131 42).toInt = (ps_i s0 1131 42).toInt from by omega) (show (ps_i s 1131 42).toInt < 40 from by omega) (show 0 ≤ (ps_i s 1131 42).toInt from by omega)
  · have f8 : v4.toInt ≠ (0 : Int) := xne h6
    refine ms_194 J (show (ps_i s 1131 8).toInt ≤ (ps_i s 1131 4).toInt from by omega) (fun s9 J9 K9 p9_0 => ?_)
    have K10 := kpt K K9 rfl rfl
    have KC := K9
    have hFR : ∀ k : Nat, (k : Int) < 22468 ∨ 25748 ≤ (k : Int) → ps_a s9 1134 k = ps_a s0 1134 k := by rw [show ps_a s9 1134 = ps_a s 1134 from (K9.2 1134 rfl).1]; exact hFR
    have hI2 : 1 ≤ (ps_i s 1131 5).toInt ∨ SRs σ (ps_a s9 1134) (ps_a s9 1152) (ps_a s9 1153) ax (n0 + 1) := by rw [show ps_a s9 1134 = ps_a s 1134 from (K9.2 1134 rfl).1, show ps_a s9 1152 = ps_a s 1152 from (K9.2 1152 rfl).1, show ps_a s9 1153 = ps_a s 1153 from (K9.2 1153 rfl).1]; exact hI2
    have p9_0' : (ps_i s9 1131 8).toInt ≤ (ps_i s9 1131 4).toInt := p9_0
    have r11 := mf_8 J9
    have r12 := mf_4 J9
    have u13 : (ps_i s9 1131 4).toInt = (ps_i s 1131 4).toInt := xeq (kp_i K9 4 rfl)
    have r14 := mf_42 J9
    have u15 : (ps_i s9 1131 42).toInt = (ps_i s 1131 42).toInt := xeq (kp_i K9 42 rfl)
    exact ms_238_216 (σ := σ) (ax := ax) (n0 := n0) k   _ J9 K10 hFR (show (ps_i s9 1131 8).toInt ≤ (ps_i s9 1131 4).toInt from by omega) (hI2.imp (fun z => (show 1 ≤ (ps_i s9 1131 5).toInt from by omega)) id) (show (ps_i s9 1131 42).toInt = n0 from by omega) (show (ps_i s9 1131 42).toInt = (ps_i s0 1131 42).toInt from by omega) (show (ps_i s9 1131 42).toInt < 40 from by omega) (show 0 ≤ (ps_i s9 1131 42).toInt from by omega)

theorem ms_238_181 {x : Nat → Nat → Nat} {t : Int32} {d : Nat} {s0 : ps_S} {σ : mSig} {ax n0 : Int} {Q : Option Value → ps_S → Prop} (k : ∀ (s' : ps_S), mJ x t s' → kp [1134, 1143, 1144, 1145, 1146, 1147, 1148, 1152, 1153, 1154, 1155, 1156] [5, 6, 7, 8, 9, 10, 11, 23, 29, 30, 31, 32, 42] s0 s' → ((ps_i s' 1131 8).toInt ≤ (ps_i s' 1131 4).toInt) → (1 ≤ (ps_i s' 1131 5).toInt ∨ SRs σ (ps_a s' 1134) (ps_a s' 1152) (ps_a s' 1153) ax (ps_i s' 1131 42).toInt) → (∀ k : Nat, (k : Int) < 22468 ∨ 25748 ≤ (k : Int) → ps_a s' 1134 k = ps_a s0 1134 k) → (1 ≤ (ps_i s' 1131 5).toInt ∨ (ps_i s' 1131 42).toInt = (ps_i s0 1131 42).toInt + 1) → ((ps_i s0 1131 42).toInt ≤ (ps_i s' 1131 42).toInt) → Q none s') (x1 : Int32) (s : ps_S) (J : mJ x t s) (K : kp [1134, 1143, 1144, 1145, 1146, 1147, 1148, 1152, 1153, 1154, 1155, 1156] [5, 6, 7, 8, 9, 10, 11, 23, 29, 30, 31, 32, 42] s0 s) (hRp : SRs σ (ps_a s 1134) (ps_a s 1152) (ps_a s 1153) ax (n0 + 1)) (hFR : ∀ k : Nat, (k : Int) < 22468 ∨ 25748 ≤ (k : Int) → ps_a s 1134 k = ps_a s0 1134 k) (i2 : (ps_i s 1131 8).toInt ≤ (ps_i s 1131 4).toInt) (i3 : (ps_i s 1131 5).toInt = 0) (i4 : 0 ≤ x1.toInt) (i5 : x1.toInt < 40) (i6 : (ps_i s 1131 42).toInt = n0) (i7 : (ps_i s 1131 42).toInt = (ps_i s0 1131 42).toInt) (i8 : (ps_i s 1131 42).toInt < 40) (i9 : 0 ≤ (ps_i s 1131 42).toInt) : ps_At (d + 6) 238 181 [(0, .ref 1131), (1, .int x1)] [] s Q := by
  have r1 := mf_8 J
  have r2 := mf_4 J
  have r3 := mf_5 J
  have r4 := mf_42 J
  refine pg_238_181 (d := d + 5) ?_
  refine ms_208 J  (fun v5 b5 => ?_)
  refine And.intro (fun h6 => ?_) (fun h6 => ?_)
  · have f7 : v5.toInt ≠ (0 : Int) := xne h6
    refine ms_217 J  (fun v8 s8 J8 K8 p8_0 p8_1 p8_2 => ?_)
    have K9 := kpt K K8 rfl rfl
    have KC := K8
    have hRp : SRs σ (ps_a s8 1134) (ps_a s8 1152) (ps_a s8 1153) ax (n0 + 1) := by rw [show ps_a s8 1134 = ps_a s 1134 from (K8.2 1134 rfl).1, show ps_a s8 1152 = ps_a s 1152 from (K8.2 1152 rfl).1, show ps_a s8 1153 = ps_a s 1153 from (K8.2 1153 rfl).1]; exact hRp
    have hFR : ∀ k : Nat, (k : Int) < 22468 ∨ 25748 ≤ (k : Int) → ps_a s8 1134 k = ps_a s0 1134 k := by rw [show ps_a s8 1134 = ps_a s 1134 from (K8.2 1134 rfl).1]; exact hFR
    have p8_0' : 0 ≤ v8.toInt := p8_0
    have p8_1' : v8.toInt ≤ 11 := p8_1
    have p8_2' : 1 ≤ (ps_i s 1131 5).toInt → 1 ≤ (ps_i s8 1131 5).toInt := p8_2
    have r10 := mf_5 J8
    refine ps_nd_i (show pm_in x1 40 = true from xgi (show 0 ≤ x1.toInt from by omega) (show x1.toInt < 40 from by omega)) ?_
    have J11 := mwa_1156 (i := (Int32.toNatClampNeg x1)) (v := v8) J8 (show 0 ≤ v8.toInt from by omega) (show v8.toInt ≤ 11 from by omega)
    have K12 := kpa' K9 (r := 1156) (i := (Int32.toNatClampNeg x1)) (v := v8) rfl
    have r13 := mf_8 J8
    have u14 : (ps_i s8 1131 8).toInt = (ps_i s 1131 8).toInt := xeq (kp_i K8 8 rfl)
    have r15 := mf_4 J8
    have u16 : (ps_i s8 1131 4).toInt = (ps_i s 1131 4).toInt := xeq (kp_i K8 4 rfl)
    have r17 := mf_42 J8
    have u18 : (ps_i s8 1131 42).toInt = (ps_i s 1131 42).toInt := xeq (kp_i K8 42 rfl)
    exact ms_238_205 (σ := σ) (ax := ax) (n0 := n0) k   _ J11 K12 hFR (show (ps_i s8 1131 8).toInt ≤ (ps_i s8 1131 4).toInt from by omega) (Or.inr hRp) (show (ps_i s8 1131 42).toInt = n0 from by omega) (show (ps_i s8 1131 42).toInt = (ps_i s0 1131 42).toInt from by omega) (show (ps_i s8 1131 42).toInt < 40 from by omega) (show 0 ≤ (ps_i s8 1131 42).toInt from by omega)
  · have f19 : v5.toInt = (0 : Int) := xeq h6
    refine ms_196 J  (fun s20 J20 K20 p20_0 => ?_)
    have K21 := kpt K K20 rfl rfl
    have KC := K20
    have hRp : SRs σ (ps_a s20 1134) (ps_a s20 1152) (ps_a s20 1153) ax (n0 + 1) := by rw [show ps_a s20 1134 = ps_a s 1134 from (K20.2 1134 rfl).1, show ps_a s20 1152 = ps_a s 1152 from (K20.2 1152 rfl).1, show ps_a s20 1153 = ps_a s 1153 from (K20.2 1153 rfl).1]; exact hRp
    have hFR : ∀ k : Nat, (k : Int) < 22468 ∨ 25748 ≤ (k : Int) → ps_a s20 1134 k = ps_a s0 1134 k := by rw [show ps_a s20 1134 = ps_a s 1134 from (K20.2 1134 rfl).1]; exact hFR
    have p20_0' : 1 ≤ (ps_i s20 1131 5).toInt := p20_0
    have r22 := mf_5 J20
    have r23 := mf_8 J20
    have u24 : (ps_i s20 1131 8).toInt = (ps_i s 1131 8).toInt := xeq (kp_i K20 8 rfl)
    have r25 := mf_4 J20
    have u26 : (ps_i s20 1131 4).toInt = (ps_i s 1131 4).toInt := xeq (kp_i K20 4 rfl)
    have r27 := mf_42 J20
    have u28 : (ps_i s20 1131 42).toInt = (ps_i s 1131 42).toInt := xeq (kp_i K20 42 rfl)
    exact ms_238_205 (σ := σ) (ax := ax) (n0 := n0) k   _ J20 K21 hFR (show (ps_i s20 1131 8).toInt ≤ (ps_i s20 1131 4).toInt from by omega) (Or.inl (show 1 ≤ (ps_i s20 1131 5).toInt from by omega)) (show (ps_i s20 1131 42).toInt = n0 from by omega) (show (ps_i s20 1131 42).toInt = (ps_i s0 1131 42).toInt from by omega) (show (ps_i s20 1131 42).toInt < 40 from by omega) (show 0 ≤ (ps_i s20 1131 42).toInt from by omega)

theorem ms_238_162 {x : Nat → Nat → Nat} {t : Int32} {d : Nat} {s0 : ps_S} {σ : mSig} {ax n0 : Int} {Q : Option Value → ps_S → Prop} (k : ∀ (s' : ps_S), mJ x t s' → kp [1134, 1143, 1144, 1145, 1146, 1147, 1148, 1152, 1153, 1154, 1155, 1156] [5, 6, 7, 8, 9, 10, 11, 23, 29, 30, 31, 32, 42] s0 s' → ((ps_i s' 1131 8).toInt ≤ (ps_i s' 1131 4).toInt) → (1 ≤ (ps_i s' 1131 5).toInt ∨ SRs σ (ps_a s' 1134) (ps_a s' 1152) (ps_a s' 1153) ax (ps_i s' 1131 42).toInt) → (∀ k : Nat, (k : Int) < 22468 ∨ 25748 ≤ (k : Int) → ps_a s' 1134 k = ps_a s0 1134 k) → (1 ≤ (ps_i s' 1131 5).toInt ∨ (ps_i s' 1131 42).toInt = (ps_i s0 1131 42).toInt + 1) → ((ps_i s0 1131 42).toInt ≤ (ps_i s' 1131 42).toInt) → Q none s') (x1 : Int32) (x2 : Int32) (s : ps_S) (J : mJ x t s) (K : kp [1134, 1143, 1144, 1145, 1146, 1147, 1148, 1152, 1153, 1154, 1155, 1156] [5, 6, 7, 8, 9, 10, 11, 23, 29, 30, 31, 32, 42] s0 s) (hS2 : Sg (ps_a s 1135) (ps_a s 1136) (ps_a s 1138) (ps_a s 1139) (ps_i s 1131 22).toInt σ) (hRs : SRs σ (ps_a s 1134) (ps_a s 1152) (ps_a s 1153) ax (n0)) (hFR : ∀ k : Nat, (k : Int) < 22468 ∨ 25748 ≤ (k : Int) → ps_a s 1134 k = ps_a s0 1134 k) (hax : (ps_a s 1137 (Int32.toNatClampNeg (ps_i s 1131 22))).toInt = ax) (i4 : (ps_i s 1131 8).toInt ≤ (ps_i s 1131 4).toInt) (i5 : 0 ≤ x1.toInt) (i6 : x1.toInt < 40) (i7 : 0 ≤ x2.toInt) (i8 : x2.toInt ≤ 18) (i9 : (ps_a s 1152 (Int32.toNatClampNeg x1)).toInt = x2.toInt) (i10 : (ps_i s 1131 42).toInt = x1.toInt) (i11 : x1.toInt = n0) (i12 : (ps_i s 1131 42).toInt = (ps_i s0 1131 42).toInt) (i13 : 1 ≤ (ps_i s 1131 5).toInt ∨ x2.toInt ≠ 1 ∨ (0 ≤ (ps_a s 1153 (Int32.toNatClampNeg x1)).toInt ∧ (ps_a s 1153 (Int32.toNatClampNeg x1)).toInt < ax)) (i14 : 1 ≤ (ps_i s 1131 5).toInt ∨ x2.toInt = 0 ∨ x2.toInt = 15 ∨ 0 ≤ (ps_a s 1153 (Int32.toNatClampNeg x1)).toInt) (i15 : 1 ≤ (ps_i s 1131 5).toInt ∨ ¬ (x2.toInt = 12 ∨ x2.toInt = 13 ∨ x2.toInt = 15) ∨ Tm σ (ps_a s 1134) (24108 + 41 * x1.toInt)) (i16 : 1 ≤ (ps_i s 1131 5).toInt ∨ ¬ (x2.toInt = 0 ∨ x2.toInt = 6 ∨ x2.toInt = 7 ∨ x2.toInt = 10 ∨ x2.toInt = 13 ∨ 16 ≤ x2.toInt) ∨ Fm σ (ps_a s 1134) (22468 + 41 * x1.toInt)) : ps_At (d + 6) 238 162 [(0, .ref 1131), (1, .int x1), (2, .int x2)] [] s Q := by
  have r1 := mf_8 J
  have r2 := mf_4 J
  have r3 : 0 ≤ (ps_a s 1152 (Int32.toNatClampNeg x1)).toInt ∧ (ps_a s 1152 (Int32.toNatClampNeg x1)).toInt ≤ 18 := ma_1152 (i := x1) J (show 0 ≤ x1.toInt from by omega) (show x1.toInt < 40 from by omega)
  have r4 := mf_42 J
  have r5 := mf_5 J
  have r6 : -1 ≤ (ps_a s 1153 (Int32.toNatClampNeg x1)).toInt ∧ (ps_a s 1153 (Int32.toNatClampNeg x1)).toInt ≤ 9999 := ma_1153 (i := x1) J (show 0 ≤ x1.toInt from by omega) (show x1.toInt < 40 from by omega)
  refine pg_238_162 (d := d + 5) ?_
  refine ms_192 J  (fun v7 p7_0 b7 => ?_)
  have p7_0' : (v7.toInt = 0 ∧ 1 ≤ (ps_i s 1131 5).toInt) ∨ (v7.toInt = 1 ∧ (ps_i s 1131 5).toInt = 0) := p7_0
  refine And.intro (fun h8 => ?_) (fun h8 => ?_)
  · have f9 : v7.toInt = (0 : Int) := xeq h8
    exact ms_238_216 (σ := σ) (ax := ax) (n0 := n0) k   _ J K hFR (show (ps_i s 1131 8).toInt ≤ (ps_i s 1131 4).toInt from by omega) (Or.inl (show 1 ≤ (ps_i s 1131 5).toInt from by omega)) (show (ps_i s 1131 42).toInt = n0 from by omega) (show (ps_i s 1131 42).toInt = (ps_i s0 1131 42).toInt from by omega) (show (ps_i s 1131 42).toInt < 40 from by omega) (show 0 ≤ (ps_i s 1131 42).toInt from by omega)
  · have f10 : v7.toInt ≠ (0 : Int) := xne h8
    have ex : Int32.toNatClampNeg x1 = x1.toInt.toNat := rfl
    have en : n0.toNat = Int32.toNatClampNeg x1 := by omega
    have hRp : SRs σ (ps_a s 1134) (ps_a s 1152) (ps_a s 1153) ax (n0 + 1) := SRs_up (kd := x2.toInt) (one := (ps_a s 1153 (Int32.toNatClampNeg x1)).toInt) hRs (by omega) (by rw [en]; omega) (by rw [en]) ⟨fun _ _ => by omega, fun z => (by rw [show n0 = x1.toInt from by omega]; exact (i16.resolve_left (by omega)).resolve_left (fun q => q z)), fun z => (by rw [show n0 = x1.toInt from by omega]; exact (i15.resolve_left (by omega)).resolve_left (fun q => q z)), fun z => by omega⟩
    refine And.intro (fun h11 => ?_) (fun h11 => ?_)
    · have f12 : x2.toInt = (11 : Int) := xeq h11
      exact ms_238_181 (σ := σ) (ax := ax) (n0 := n0) k  x1 _ J K hRp hFR (show (ps_i s 1131 8).toInt ≤ (ps_i s 1131 4).toInt from by omega) (show (ps_i s 1131 5).toInt = 0 from by omega) (show 0 ≤ x1.toInt from by omega) (show x1.toInt < 40 from by omega) (show (ps_i s 1131 42).toInt = n0 from by omega) (show (ps_i s 1131 42).toInt = (ps_i s0 1131 42).toInt from by omega) (show (ps_i s 1131 42).toInt < 40 from by omega) (show 0 ≤ (ps_i s 1131 42).toInt from by omega)
    · have f13 : x2.toInt ≠ (11 : Int) := xne h11
      refine And.intro (fun h14 => ?_) (fun h14 => ?_)
      · have f15 : x2.toInt ≠ (14 : Int) := xne h14
        exact ms_238_216 (σ := σ) (ax := ax) (n0 := n0) k   _ J K hFR (show (ps_i s 1131 8).toInt ≤ (ps_i s 1131 4).toInt from by omega) (Or.inr hRp) (show (ps_i s 1131 42).toInt = n0 from by omega) (show (ps_i s 1131 42).toInt = (ps_i s0 1131 42).toInt from by omega) (show (ps_i s 1131 42).toInt < 40 from by omega) (show 0 ≤ (ps_i s 1131 42).toInt from by omega)
      · have f16 : x2.toInt = (14 : Int) := xeq h14
        exact ms_238_181 (σ := σ) (ax := ax) (n0 := n0) k  x1 _ J K hRp hFR (show (ps_i s 1131 8).toInt ≤ (ps_i s 1131 4).toInt from by omega) (show (ps_i s 1131 5).toInt = 0 from by omega) (show 0 ≤ x1.toInt from by omega) (show x1.toInt < 40 from by omega) (show (ps_i s 1131 42).toInt = n0 from by omega) (show (ps_i s 1131 42).toInt = (ps_i s0 1131 42).toInt from by omega) (show (ps_i s 1131 42).toInt < 40 from by omega) (show 0 ≤ (ps_i s 1131 42).toInt from by omega)

theorem ms_238_134 {x : Nat → Nat → Nat} {t : Int32} {d : Nat} {s0 : ps_S} {σ : mSig} {ax n0 : Int} {Q : Option Value → ps_S → Prop} (k : ∀ (s' : ps_S), mJ x t s' → kp [1134, 1143, 1144, 1145, 1146, 1147, 1148, 1152, 1153, 1154, 1155, 1156] [5, 6, 7, 8, 9, 10, 11, 23, 29, 30, 31, 32, 42] s0 s' → ((ps_i s' 1131 8).toInt ≤ (ps_i s' 1131 4).toInt) → (1 ≤ (ps_i s' 1131 5).toInt ∨ SRs σ (ps_a s' 1134) (ps_a s' 1152) (ps_a s' 1153) ax (ps_i s' 1131 42).toInt) → (∀ k : Nat, (k : Int) < 22468 ∨ 25748 ≤ (k : Int) → ps_a s' 1134 k = ps_a s0 1134 k) → (1 ≤ (ps_i s' 1131 5).toInt ∨ (ps_i s' 1131 42).toInt = (ps_i s0 1131 42).toInt + 1) → ((ps_i s0 1131 42).toInt ≤ (ps_i s' 1131 42).toInt) → Q none s') (x1 : Int32) (x2 : Int32) (s : ps_S) (J : mJ x t s) (K : kp [1134, 1143, 1144, 1145, 1146, 1147, 1148, 1152, 1153, 1154, 1155, 1156] [5, 6, 7, 8, 9, 10, 11, 23, 29, 30, 31, 32, 42] s0 s) (hS2 : Sg (ps_a s 1135) (ps_a s 1136) (ps_a s 1138) (ps_a s 1139) (ps_i s 1131 22).toInt σ) (hRs : SRs σ (ps_a s 1134) (ps_a s 1152) (ps_a s 1153) ax (n0)) (hFR : ∀ k : Nat, (k : Int) < 22468 ∨ 25748 ≤ (k : Int) → ps_a s 1134 k = ps_a s0 1134 k) (hax : (ps_a s 1137 (Int32.toNatClampNeg (ps_i s 1131 22))).toInt = ax) (i4 : (ps_i s 1131 8).toInt ≤ (ps_i s 1131 4).toInt) (i5 : 0 ≤ x1.toInt) (i6 : x1.toInt < 40) (i7 : 0 ≤ x2.toInt) (i8 : x2.toInt ≤ 18) (i9 : (ps_a s 1152 (Int32.toNatClampNeg x1)).toInt = x2.toInt) (i10 : (ps_i s 1131 42).toInt = x1.toInt) (i11 : x1.toInt = n0) (i12 : (ps_i s 1131 42).toInt = (ps_i s0 1131 42).toInt) (i13 : 1 ≤ (ps_i s 1131 5).toInt ∨ x2.toInt ≠ 1 ∨ (0 ≤ (ps_a s 1153 (Int32.toNatClampNeg x1)).toInt ∧ (ps_a s 1153 (Int32.toNatClampNeg x1)).toInt < ax)) (i14 : 1 ≤ (ps_i s 1131 5).toInt ∨ x2.toInt = 0 ∨ x2.toInt = 15 ∨ 0 ≤ (ps_a s 1153 (Int32.toNatClampNeg x1)).toInt) (i15 : 1 ≤ (ps_i s 1131 5).toInt ∨ ¬ (x2.toInt = 12 ∨ x2.toInt = 13 ∨ x2.toInt = 15) ∨ Tm σ (ps_a s 1134) (24108 + 41 * x1.toInt)) : ps_At (d + 6) 238 134 [(0, .ref 1131), (1, .int x1), (2, .int x2)] [] s Q := by
  have r1 := mf_8 J
  have r2 := mf_4 J
  have r3 : 0 ≤ (ps_a s 1152 (Int32.toNatClampNeg x1)).toInt ∧ (ps_a s 1152 (Int32.toNatClampNeg x1)).toInt ≤ 18 := ma_1152 (i := x1) J (show 0 ≤ x1.toInt from by omega) (show x1.toInt < 40 from by omega)
  have r4 := mf_42 J
  have r5 := mf_5 J
  have r6 : -1 ≤ (ps_a s 1153 (Int32.toNatClampNeg x1)).toInt ∧ (ps_a s 1153 (Int32.toNatClampNeg x1)).toInt ≤ 9999 := ma_1153 (i := x1) J (show 0 ≤ x1.toInt from by omega) (show x1.toInt < 40 from by omega)
  refine pg_238_134 (d := d + 5) ?_
  have ex : Int32.toNatClampNeg x1 = x1.toInt.toNat := rfl
  have hR0 : SRs σ (ps_a s 1134) (ps_a s 1152) (ps_a s 1153) ax n0 := hRs
  refine ms_192 J  (fun v7 p7_0 b7 => ?_)
  have p7_0' : (v7.toInt = 0 ∧ 1 ≤ (ps_i s 1131 5).toInt) ∨ (v7.toInt = 1 ∧ (ps_i s 1131 5).toInt = 0) := p7_0
  refine And.intro (fun h8 => ?_) (fun h8 => ?_)
  · have f9 : v7.toInt = (0 : Int) := xeq h8
    exact ms_238_162 (σ := σ) (ax := ax) (n0 := n0) k  x1 x2 _ J K hS2 hRs hFR hax (show (ps_i s 1131 8).toInt ≤ (ps_i s 1131 4).toInt from by omega) (show 0 ≤ x1.toInt from by omega) (show x1.toInt < 40 from by omega) (show 0 ≤ x2.toInt from by omega) (show x2.toInt ≤ 18 from by omega) (show (ps_a s 1152 (Int32.toNatClampNeg x1)).toInt = x2.toInt from by omega) (show (ps_i s 1131 42).toInt = x1.toInt from by omega) (show x1.toInt = n0 from by omega) (show (ps_i s 1131 42).toInt = (ps_i s0 1131 42).toInt from by omega) (show 1 ≤ (ps_i s 1131 5).toInt ∨ x2.toInt ≠ 1 ∨ (0 ≤ (ps_a s 1153 (Int32.toNatClampNeg x1)).toInt ∧ (ps_a s 1153 (Int32.toNatClampNeg x1)).toInt < ax) from by omega) (show 1 ≤ (ps_i s 1131 5).toInt ∨ x2.toInt = 0 ∨ x2.toInt = 15 ∨ 0 ≤ (ps_a s 1153 (Int32.toNatClampNeg x1)).toInt from by omega) (by assumption) (Or.inl (show 1 ≤ (ps_i s 1131 5).toInt from by omega))
  · have f10 : v7.toInt ≠ (0 : Int) := xne h8
    refine ms_236 J  (fun v11 p11_0 b11 => ?_)
    have p11_0' : (v11.toInt = 1 ∧ (x2.toInt = 0 ∨ x2.toInt = 6 ∨ x2.toInt = 7 ∨ x2.toInt = 10 ∨ x2.toInt = 13 ∨ 16 ≤ x2.toInt)) ∨ (v11.toInt = 0 ∧ x2.toInt ≠ 0 ∧ x2.toInt ≠ 6 ∧ x2.toInt ≠ 7 ∧ x2.toInt ≠ 10 ∧ x2.toInt ≠ 13 ∧ x2.toInt < 16) := p11_0
    refine And.intro (fun h12 => ?_) (fun h12 => ?_)
    · have f13 : v11.toInt = (0 : Int) := xeq h12
      exact ms_238_162 (σ := σ) (ax := ax) (n0 := n0) k  x1 x2 _ J K hS2 hRs hFR hax (show (ps_i s 1131 8).toInt ≤ (ps_i s 1131 4).toInt from by omega) (show 0 ≤ x1.toInt from by omega) (show x1.toInt < 40 from by omega) (show 0 ≤ x2.toInt from by omega) (show x2.toInt ≤ 18 from by omega) (show (ps_a s 1152 (Int32.toNatClampNeg x1)).toInt = x2.toInt from by omega) (show (ps_i s 1131 42).toInt = x1.toInt from by omega) (show x1.toInt = n0 from by omega) (show (ps_i s 1131 42).toInt = (ps_i s0 1131 42).toInt from by omega) (show 1 ≤ (ps_i s 1131 5).toInt ∨ x2.toInt ≠ 1 ∨ (0 ≤ (ps_a s 1153 (Int32.toNatClampNeg x1)).toInt ∧ (ps_a s 1153 (Int32.toNatClampNeg x1)).toInt < ax) from by omega) (show 1 ≤ (ps_i s 1131 5).toInt ∨ x2.toInt = 0 ∨ x2.toInt = 15 ∨ 0 ≤ (ps_a s 1153 (Int32.toNatClampNeg x1)).toInt from by omega) (by assumption) (Or.inr (Or.inl (by omega)))
    · have f14 : v11.toInt ≠ (0 : Int) := xne h12
      have a15 : ((41 : Int32) * x1).toInt = (41 : Int) * x1.toInt := xIm (show -2147483648 ≤ (41 : Int) * x1.toInt from by omega) (show (41 : Int) * x1.toInt < 2147483648 from by omega)
      have a16 : ((22468 : Int32) + ((41 : Int32) * x1)).toInt = (22468 : Int) + ((41 : Int32) * x1).toInt := xIa (show -2147483648 ≤ (22468 : Int) + ((41 : Int32) * x1).toInt from by omega) (show (22468 : Int) + ((41 : Int32) * x1).toInt < 2147483648 from by omega)
      refine ms_209 (b := true) J hS2 (show ((22468 : Int32) + ((41 : Int32) * x1)).toInt % 41 = 0 from by omega) (show 0 ≤ ((22468 : Int32) + ((41 : Int32) * x1)).toInt from by omega) (show ((22468 : Int32) + ((41 : Int32) * x1)).toInt < 27306 from by omega) (show (ps_i s 1131 8).toInt ≤ (ps_i s 1131 4).toInt from by omega) ((Or.inl ⟨by decide, rfl⟩)) ((by decide)) (fun s17 J17 K17 p17_0 p17_1 p17_2 p17_3 => ?_)
      have K18 := kpt K K17 rfl rfl
      have KC := K17
      have hS2 : Sg (ps_a s17 1135) (ps_a s17 1136) (ps_a s17 1138) (ps_a s17 1139) (ps_i s17 1131 22).toInt σ := by rw [show ps_a s17 1135 = ps_a s 1135 from (K17.2 1135 rfl).1, show ps_a s17 1136 = ps_a s 1136 from (K17.2 1136 rfl).1, show ps_a s17 1138 = ps_a s 1138 from (K17.2 1138 rfl).1, show ps_a s17 1139 = ps_a s 1139 from (K17.2 1139 rfl).1, show ps_i s17 1131 22 = ps_i s 1131 22 from kp_i K17 22 rfl]; exact hS2
      have hax : (ps_a s17 1137 (Int32.toNatClampNeg (ps_i s17 1131 22))).toInt = ax := by rw [show ps_a s17 1137 = ps_a s 1137 from (K17.2 1137 rfl).1, show ps_i s17 1131 22 = ps_i s 1131 22 from kp_i K17 22 rfl]; exact hax
      have hR0 : SRs σ (ps_a s 1134) (ps_a s17 1152) (ps_a s17 1153) ax n0 := by rw [show ps_a s17 1152 = ps_a s 1152 from (K17.2 1152 rfl).1, show ps_a s17 1153 = ps_a s 1153 from (K17.2 1153 rfl).1]; exact hR0
      have p17_0' : (ps_i s17 1131 8).toInt ≤ (ps_i s17 1131 4).toInt := p17_0
      have r19 := mf_8 J17
      have r20 := mf_4 J17
      have u21 : (ps_i s17 1131 4).toInt = (ps_i s 1131 4).toInt := xeq (kp_i K17 4 rfl)
      have p17_1' : 1 ≤ (ps_i s 1131 5).toInt → 1 ≤ (ps_i s17 1131 5).toInt := p17_1
      have r22 := mf_5 J17
      have ho : _ := p17_2
      have hrow : _ := p17_3
      have r23 : 0 ≤ (ps_a s17 1152 (Int32.toNatClampNeg x1)).toInt ∧ (ps_a s17 1152 (Int32.toNatClampNeg x1)).toInt ≤ 18 := ma_1152 (i := x1) J17 (show 0 ≤ x1.toInt from by omega) (show x1.toInt < 40 from by omega)
      have u24 : (ps_a s17 1152 (Int32.toNatClampNeg x1)).toInt = (ps_a s 1152 (Int32.toNatClampNeg x1)).toInt := xeq (kp_a K17 1152 rfl _)
      have r25 := mf_42 J17
      have u26 : (ps_i s17 1131 42).toInt = (ps_i s 1131 42).toInt := xeq (kp_i K17 42 rfl)
      have r27 : -1 ≤ (ps_a s17 1153 (Int32.toNatClampNeg x1)).toInt ∧ (ps_a s17 1153 (Int32.toNatClampNeg x1)).toInt ≤ 9999 := ma_1153 (i := x1) J17 (show 0 ≤ x1.toInt from by omega) (show x1.toInt < 40 from by omega)
      have u28 : (ps_a s17 1153 (Int32.toNatClampNeg x1)).toInt = (ps_a s 1153 (Int32.toNatClampNeg x1)).toInt := xeq (kp_a K17 1153 rfl _)
      exact ms_238_162 (σ := σ) (ax := ax) (n0 := n0) k  x1 x2 _ J17 K18 hS2 (SRs_row (i := x1.toInt) hR0 (fun k hk => ho k (by omega)) (Or.inl rfl) (by omega) (by omega)) (fun k hk => (ho k (by omega)).trans (hFR k hk)) hax (show (ps_i s17 1131 8).toInt ≤ (ps_i s17 1131 4).toInt from by omega) (show 0 ≤ x1.toInt from by omega) (show x1.toInt < 40 from by omega) (show 0 ≤ x2.toInt from by omega) (show x2.toInt ≤ 18 from by omega) (show (ps_a s17 1152 (Int32.toNatClampNeg x1)).toInt = x2.toInt from by omega) (show (ps_i s17 1131 42).toInt = x1.toInt from by omega) (show x1.toInt = n0 from by omega) (show (ps_i s17 1131 42).toInt = (ps_i s0 1131 42).toInt from by omega) (show 1 ≤ (ps_i s17 1131 5).toInt ∨ x2.toInt ≠ 1 ∨ (0 ≤ (ps_a s17 1153 (Int32.toNatClampNeg x1)).toInt ∧ (ps_a s17 1153 (Int32.toNatClampNeg x1)).toInt < ax) from by omega) (show 1 ≤ (ps_i s17 1131 5).toInt ∨ x2.toInt = 0 ∨ x2.toInt = 15 ∨ 0 ≤ (ps_a s17 1153 (Int32.toNatClampNeg x1)).toInt from by omega) (i15.elim (fun z => Or.inl (show 1 ≤ (ps_i s17 1131 5).toInt from by omega)) (fun z => Or.inr (z.imp id (fun q => Tm_keep q (fun k h1 h2 => ho k (by omega)))))) (hrow.imp id (fun z => Or.inr (by obtain ⟨l2, g1, g2, g3⟩ := z; exact ⟨l2, (by rw [show ((22468 : Int32) + ((41 : Int32) * x1)).toInt = 22468 + 41 * x1.toInt from by omega] at g1; exact g1), g2⟩)))

theorem ms_238_106 {x : Nat → Nat → Nat} {t : Int32} {d : Nat} {s0 : ps_S} {σ : mSig} {ax n0 : Int} {Q : Option Value → ps_S → Prop} (k : ∀ (s' : ps_S), mJ x t s' → kp [1134, 1143, 1144, 1145, 1146, 1147, 1148, 1152, 1153, 1154, 1155, 1156] [5, 6, 7, 8, 9, 10, 11, 23, 29, 30, 31, 32, 42] s0 s' → ((ps_i s' 1131 8).toInt ≤ (ps_i s' 1131 4).toInt) → (1 ≤ (ps_i s' 1131 5).toInt ∨ SRs σ (ps_a s' 1134) (ps_a s' 1152) (ps_a s' 1153) ax (ps_i s' 1131 42).toInt) → (∀ k : Nat, (k : Int) < 22468 ∨ 25748 ≤ (k : Int) → ps_a s' 1134 k = ps_a s0 1134 k) → (1 ≤ (ps_i s' 1131 5).toInt ∨ (ps_i s' 1131 42).toInt = (ps_i s0 1131 42).toInt + 1) → ((ps_i s0 1131 42).toInt ≤ (ps_i s' 1131 42).toInt) → Q none s') (x1 : Int32) (x2 : Int32) (s : ps_S) (J : mJ x t s) (K : kp [1134, 1143, 1144, 1145, 1146, 1147, 1148, 1152, 1153, 1154, 1155, 1156] [5, 6, 7, 8, 9, 10, 11, 23, 29, 30, 31, 32, 42] s0 s) (hS2 : Sg (ps_a s 1135) (ps_a s 1136) (ps_a s 1138) (ps_a s 1139) (ps_i s 1131 22).toInt σ) (hRs : SRs σ (ps_a s 1134) (ps_a s 1152) (ps_a s 1153) ax (n0)) (hFR : ∀ k : Nat, (k : Int) < 22468 ∨ 25748 ≤ (k : Int) → ps_a s 1134 k = ps_a s0 1134 k) (hax : (ps_a s 1137 (Int32.toNatClampNeg (ps_i s 1131 22))).toInt = ax) (i4 : (ps_i s 1131 8).toInt ≤ (ps_i s 1131 4).toInt) (i5 : 0 ≤ x1.toInt) (i6 : x1.toInt < 40) (i7 : 0 ≤ x2.toInt) (i8 : x2.toInt ≤ 18) (i9 : (ps_a s 1152 (Int32.toNatClampNeg x1)).toInt = x2.toInt) (i10 : (ps_i s 1131 42).toInt = x1.toInt) (i11 : x1.toInt = n0) (i12 : (ps_i s 1131 42).toInt = (ps_i s0 1131 42).toInt) (i13 : 1 ≤ (ps_i s 1131 5).toInt ∨ x2.toInt ≠ 1 ∨ (0 ≤ (ps_a s 1153 (Int32.toNatClampNeg x1)).toInt ∧ (ps_a s 1153 (Int32.toNatClampNeg x1)).toInt < ax)) (i14 : 1 ≤ (ps_i s 1131 5).toInt ∨ x2.toInt = 0 ∨ x2.toInt = 15 ∨ 0 ≤ (ps_a s 1153 (Int32.toNatClampNeg x1)).toInt) : ps_At (d + 6) 238 106 [(0, .ref 1131), (1, .int x1), (2, .int x2)] [] s Q := by
  have r1 := mf_8 J
  have r2 := mf_4 J
  have r3 : 0 ≤ (ps_a s 1152 (Int32.toNatClampNeg x1)).toInt ∧ (ps_a s 1152 (Int32.toNatClampNeg x1)).toInt ≤ 18 := ma_1152 (i := x1) J (show 0 ≤ x1.toInt from by omega) (show x1.toInt < 40 from by omega)
  have r4 := mf_42 J
  have r5 := mf_5 J
  have r6 : -1 ≤ (ps_a s 1153 (Int32.toNatClampNeg x1)).toInt ∧ (ps_a s 1153 (Int32.toNatClampNeg x1)).toInt ≤ 9999 := ma_1153 (i := x1) J (show 0 ≤ x1.toInt from by omega) (show x1.toInt < 40 from by omega)
  refine pg_238_106 (d := d + 5) ?_
  have ex : Int32.toNatClampNeg x1 = x1.toInt.toNat := rfl
  have hR0 : SRs σ (ps_a s 1134) (ps_a s 1152) (ps_a s 1153) ax n0 := hRs
  refine ms_192 J  (fun v7 p7_0 b7 => ?_)
  have p7_0' : (v7.toInt = 0 ∧ 1 ≤ (ps_i s 1131 5).toInt) ∨ (v7.toInt = 1 ∧ (ps_i s 1131 5).toInt = 0) := p7_0
  refine And.intro (fun h8 => ?_) (fun h8 => ?_)
  · have f9 : v7.toInt = (0 : Int) := xeq h8
    exact ms_238_134 (σ := σ) (ax := ax) (n0 := n0) k  x1 x2 _ J K hS2 hRs hFR hax (show (ps_i s 1131 8).toInt ≤ (ps_i s 1131 4).toInt from by omega) (show 0 ≤ x1.toInt from by omega) (show x1.toInt < 40 from by omega) (show 0 ≤ x2.toInt from by omega) (show x2.toInt ≤ 18 from by omega) (show (ps_a s 1152 (Int32.toNatClampNeg x1)).toInt = x2.toInt from by omega) (show (ps_i s 1131 42).toInt = x1.toInt from by omega) (show x1.toInt = n0 from by omega) (show (ps_i s 1131 42).toInt = (ps_i s0 1131 42).toInt from by omega) (show 1 ≤ (ps_i s 1131 5).toInt ∨ x2.toInt ≠ 1 ∨ (0 ≤ (ps_a s 1153 (Int32.toNatClampNeg x1)).toInt ∧ (ps_a s 1153 (Int32.toNatClampNeg x1)).toInt < ax) from by omega) (show 1 ≤ (ps_i s 1131 5).toInt ∨ x2.toInt = 0 ∨ x2.toInt = 15 ∨ 0 ≤ (ps_a s 1153 (Int32.toNatClampNeg x1)).toInt from by omega) (Or.inl (show 1 ≤ (ps_i s 1131 5).toInt from by omega))
  · have f10 : v7.toInt ≠ (0 : Int) := xne h8
    refine ms_235 J  (fun v11 p11_0 b11 => ?_)
    have p11_0' : (v11.toInt = 1 ∧ (x2.toInt = 12 ∨ x2.toInt = 13 ∨ x2.toInt = 15)) ∨ (v11.toInt = 0 ∧ x2.toInt ≠ 12 ∧ x2.toInt ≠ 13 ∧ x2.toInt ≠ 15) := p11_0
    refine And.intro (fun h12 => ?_) (fun h12 => ?_)
    · have f13 : v11.toInt = (0 : Int) := xeq h12
      exact ms_238_134 (σ := σ) (ax := ax) (n0 := n0) k  x1 x2 _ J K hS2 hRs hFR hax (show (ps_i s 1131 8).toInt ≤ (ps_i s 1131 4).toInt from by omega) (show 0 ≤ x1.toInt from by omega) (show x1.toInt < 40 from by omega) (show 0 ≤ x2.toInt from by omega) (show x2.toInt ≤ 18 from by omega) (show (ps_a s 1152 (Int32.toNatClampNeg x1)).toInt = x2.toInt from by omega) (show (ps_i s 1131 42).toInt = x1.toInt from by omega) (show x1.toInt = n0 from by omega) (show (ps_i s 1131 42).toInt = (ps_i s0 1131 42).toInt from by omega) (show 1 ≤ (ps_i s 1131 5).toInt ∨ x2.toInt ≠ 1 ∨ (0 ≤ (ps_a s 1153 (Int32.toNatClampNeg x1)).toInt ∧ (ps_a s 1153 (Int32.toNatClampNeg x1)).toInt < ax) from by omega) (show 1 ≤ (ps_i s 1131 5).toInt ∨ x2.toInt = 0 ∨ x2.toInt = 15 ∨ 0 ≤ (ps_a s 1153 (Int32.toNatClampNeg x1)).toInt from by omega) (Or.inr (Or.inl (by omega)))
    · have f14 : v11.toInt ≠ (0 : Int) := xne h12
      have a15 : ((41 : Int32) * x1).toInt = (41 : Int) * x1.toInt := xIm (show -2147483648 ≤ (41 : Int) * x1.toInt from by omega) (show (41 : Int) * x1.toInt < 2147483648 from by omega)
      have a16 : ((24108 : Int32) + ((41 : Int32) * x1)).toInt = (24108 : Int) + ((41 : Int32) * x1).toInt := xIa (show -2147483648 ≤ (24108 : Int) + ((41 : Int32) * x1).toInt from by omega) (show (24108 : Int) + ((41 : Int32) * x1).toInt < 2147483648 from by omega)
      refine ms_209 (b := false) J hS2 (show ((24108 : Int32) + ((41 : Int32) * x1)).toInt % 41 = 0 from by omega) (show 0 ≤ ((24108 : Int32) + ((41 : Int32) * x1)).toInt from by omega) (show ((24108 : Int32) + ((41 : Int32) * x1)).toInt < 27306 from by omega) (show (ps_i s 1131 8).toInt ≤ (ps_i s 1131 4).toInt from by omega) ((Or.inr ⟨by decide, rfl⟩)) ((by decide)) (fun s17 J17 K17 p17_0 p17_1 p17_2 p17_3 => ?_)
      have K18 := kpt K K17 rfl rfl
      have KC := K17
      have hS2 : Sg (ps_a s17 1135) (ps_a s17 1136) (ps_a s17 1138) (ps_a s17 1139) (ps_i s17 1131 22).toInt σ := by rw [show ps_a s17 1135 = ps_a s 1135 from (K17.2 1135 rfl).1, show ps_a s17 1136 = ps_a s 1136 from (K17.2 1136 rfl).1, show ps_a s17 1138 = ps_a s 1138 from (K17.2 1138 rfl).1, show ps_a s17 1139 = ps_a s 1139 from (K17.2 1139 rfl).1, show ps_i s17 1131 22 = ps_i s 1131 22 from kp_i K17 22 rfl]; exact hS2
      have hax : (ps_a s17 1137 (Int32.toNatClampNeg (ps_i s17 1131 22))).toInt = ax := by rw [show ps_a s17 1137 = ps_a s 1137 from (K17.2 1137 rfl).1, show ps_i s17 1131 22 = ps_i s 1131 22 from kp_i K17 22 rfl]; exact hax
      have hR0 : SRs σ (ps_a s 1134) (ps_a s17 1152) (ps_a s17 1153) ax n0 := by rw [show ps_a s17 1152 = ps_a s 1152 from (K17.2 1152 rfl).1, show ps_a s17 1153 = ps_a s 1153 from (K17.2 1153 rfl).1]; exact hR0
      have p17_0' : (ps_i s17 1131 8).toInt ≤ (ps_i s17 1131 4).toInt := p17_0
      have r19 := mf_8 J17
      have r20 := mf_4 J17
      have u21 : (ps_i s17 1131 4).toInt = (ps_i s 1131 4).toInt := xeq (kp_i K17 4 rfl)
      have p17_1' : 1 ≤ (ps_i s 1131 5).toInt → 1 ≤ (ps_i s17 1131 5).toInt := p17_1
      have r22 := mf_5 J17
      have ho : _ := p17_2
      have hrow : _ := p17_3
      have r23 : 0 ≤ (ps_a s17 1152 (Int32.toNatClampNeg x1)).toInt ∧ (ps_a s17 1152 (Int32.toNatClampNeg x1)).toInt ≤ 18 := ma_1152 (i := x1) J17 (show 0 ≤ x1.toInt from by omega) (show x1.toInt < 40 from by omega)
      have u24 : (ps_a s17 1152 (Int32.toNatClampNeg x1)).toInt = (ps_a s 1152 (Int32.toNatClampNeg x1)).toInt := xeq (kp_a K17 1152 rfl _)
      have r25 := mf_42 J17
      have u26 : (ps_i s17 1131 42).toInt = (ps_i s 1131 42).toInt := xeq (kp_i K17 42 rfl)
      have r27 : -1 ≤ (ps_a s17 1153 (Int32.toNatClampNeg x1)).toInt ∧ (ps_a s17 1153 (Int32.toNatClampNeg x1)).toInt ≤ 9999 := ma_1153 (i := x1) J17 (show 0 ≤ x1.toInt from by omega) (show x1.toInt < 40 from by omega)
      have u28 : (ps_a s17 1153 (Int32.toNatClampNeg x1)).toInt = (ps_a s 1153 (Int32.toNatClampNeg x1)).toInt := xeq (kp_a K17 1153 rfl _)
      exact ms_238_134 (σ := σ) (ax := ax) (n0 := n0) k  x1 x2 _ J17 K18 hS2 (SRs_row (i := x1.toInt) hR0 (fun k hk => ho k (by omega)) (Or.inr rfl) (by omega) (by omega)) (fun k hk => (ho k (by omega)).trans (hFR k hk)) hax (show (ps_i s17 1131 8).toInt ≤ (ps_i s17 1131 4).toInt from by omega) (show 0 ≤ x1.toInt from by omega) (show x1.toInt < 40 from by omega) (show 0 ≤ x2.toInt from by omega) (show x2.toInt ≤ 18 from by omega) (show (ps_a s17 1152 (Int32.toNatClampNeg x1)).toInt = x2.toInt from by omega) (show (ps_i s17 1131 42).toInt = x1.toInt from by omega) (show x1.toInt = n0 from by omega) (show (ps_i s17 1131 42).toInt = (ps_i s0 1131 42).toInt from by omega) (show 1 ≤ (ps_i s17 1131 5).toInt ∨ x2.toInt ≠ 1 ∨ (0 ≤ (ps_a s17 1153 (Int32.toNatClampNeg x1)).toInt ∧ (ps_a s17 1153 (Int32.toNatClampNeg x1)).toInt < ax) from by omega) (show 1 ≤ (ps_i s17 1131 5).toInt ∨ x2.toInt = 0 ∨ x2.toInt = 15 ∨ 0 ≤ (ps_a s17 1153 (Int32.toNatClampNeg x1)).toInt from by omega) (hrow.imp id (fun z => Or.inr (by obtain ⟨l2, g1, g2, g3⟩ := z; exact ⟨l2, (by rw [show ((24108 : Int32) + ((41 : Int32) * x1)).toInt = 24108 + 41 * x1.toInt from by omega] at g1; exact g1), g2⟩)))

theorem ms_238_88 {x : Nat → Nat → Nat} {t : Int32} {d : Nat} {s0 : ps_S} {σ : mSig} {ax n0 : Int} {Q : Option Value → ps_S → Prop} (k : ∀ (s' : ps_S), mJ x t s' → kp [1134, 1143, 1144, 1145, 1146, 1147, 1148, 1152, 1153, 1154, 1155, 1156] [5, 6, 7, 8, 9, 10, 11, 23, 29, 30, 31, 32, 42] s0 s' → ((ps_i s' 1131 8).toInt ≤ (ps_i s' 1131 4).toInt) → (1 ≤ (ps_i s' 1131 5).toInt ∨ SRs σ (ps_a s' 1134) (ps_a s' 1152) (ps_a s' 1153) ax (ps_i s' 1131 42).toInt) → (∀ k : Nat, (k : Int) < 22468 ∨ 25748 ≤ (k : Int) → ps_a s' 1134 k = ps_a s0 1134 k) → (1 ≤ (ps_i s' 1131 5).toInt ∨ (ps_i s' 1131 42).toInt = (ps_i s0 1131 42).toInt + 1) → ((ps_i s0 1131 42).toInt ≤ (ps_i s' 1131 42).toInt) → Q none s') (x1 : Int32) (x2 : Int32) (s : ps_S) (J : mJ x t s) (K : kp [1134, 1143, 1144, 1145, 1146, 1147, 1148, 1152, 1153, 1154, 1155, 1156] [5, 6, 7, 8, 9, 10, 11, 23, 29, 30, 31, 32, 42] s0 s) (hS2 : Sg (ps_a s 1135) (ps_a s 1136) (ps_a s 1138) (ps_a s 1139) (ps_i s 1131 22).toInt σ) (hRs : SRs σ (ps_a s 1134) (ps_a s 1152) (ps_a s 1153) ax (n0)) (hFR : ∀ k : Nat, (k : Int) < 22468 ∨ 25748 ≤ (k : Int) → ps_a s 1134 k = ps_a s0 1134 k) (hax : (ps_a s 1137 (Int32.toNatClampNeg (ps_i s 1131 22))).toInt = ax) (i4 : (ps_i s 1131 8).toInt ≤ (ps_i s 1131 4).toInt) (i5 : 0 ≤ x1.toInt) (i6 : x1.toInt < 40) (i7 : 0 ≤ x2.toInt) (i8 : x2.toInt ≤ 18) (i9 : (ps_a s 1152 (Int32.toNatClampNeg x1)).toInt = x2.toInt) (i10 : (ps_i s 1131 42).toInt = x1.toInt) (i11 : x1.toInt = n0) (i12 : (ps_i s 1131 42).toInt = (ps_i s0 1131 42).toInt) (i13 : 1 ≤ (ps_i s 1131 5).toInt ∨ x2.toInt ≠ 1 ∨ (0 ≤ (ps_a s 1153 (Int32.toNatClampNeg x1)).toInt ∧ (ps_a s 1153 (Int32.toNatClampNeg x1)).toInt < ax)) (i14 : 1 ≤ (ps_i s 1131 5).toInt ∨ x2.toInt = 0 ∨ x2.toInt = 15 ∨ 0 ≤ (ps_a s 1153 (Int32.toNatClampNeg x1)).toInt) : ps_At (d + 6) 238 88 [(0, .ref 1131), (1, .int x1), (2, .int x2)] [] s Q := by
  have r1 := mf_8 J
  have r2 := mf_4 J
  have r3 : 0 ≤ (ps_a s 1152 (Int32.toNatClampNeg x1)).toInt ∧ (ps_a s 1152 (Int32.toNatClampNeg x1)).toInt ≤ 18 := ma_1152 (i := x1) J (show 0 ≤ x1.toInt from by omega) (show x1.toInt < 40 from by omega)
  have r4 := mf_42 J
  have r5 := mf_5 J
  have r6 : -1 ≤ (ps_a s 1153 (Int32.toNatClampNeg x1)).toInt ∧ (ps_a s 1153 (Int32.toNatClampNeg x1)).toInt ≤ 9999 := ma_1153 (i := x1) J (show 0 ≤ x1.toInt from by omega) (show x1.toInt < 40 from by omega)
  refine pg_238_88 (d := d + 5) ?_
  have ex : Int32.toNatClampNeg x1 = x1.toInt.toNat := rfl
  refine ms_234 J  (fun v7 p7_0 => ?_)
  have p7_0' : ((x2.toInt = 0 ∨ x2.toInt = 1 ∨ x2.toInt = 15) ∧ v7.toInt = 0) ∨ ((x2.toInt = 3 ∨ x2.toInt = 9 ∨ x2.toInt = 14 ∨ x2.toInt = 16) ∧ v7.toInt = 2) ∨ (x2.toInt = 8 ∧ v7.toInt = 3) ∨ (v7.toInt = 1 ∧ x2.toInt ≠ 0 ∧ x2.toInt ≠ 1 ∧ x2.toInt ≠ 15 ∧ x2.toInt ≠ 3 ∧ x2.toInt ≠ 9 ∧ x2.toInt ≠ 14 ∧ x2.toInt ≠ 16 ∧ x2.toInt ≠ 8) := p7_0
  refine And.intro (fun h8 => ?_) (fun h8 => ?_)
  · have f9 : v7.toInt ≤ (2 : Int) := xle h8
    exact ms_238_106 (σ := σ) (ax := ax) (n0 := n0) k  x1 x2 _ J K hS2 hRs hFR hax (show (ps_i s 1131 8).toInt ≤ (ps_i s 1131 4).toInt from by omega) (show 0 ≤ x1.toInt from by omega) (show x1.toInt < 40 from by omega) (show 0 ≤ x2.toInt from by omega) (show x2.toInt ≤ 18 from by omega) (show (ps_a s 1152 (Int32.toNatClampNeg x1)).toInt = x2.toInt from by omega) (show (ps_i s 1131 42).toInt = x1.toInt from by omega) (show x1.toInt = n0 from by omega) (show (ps_i s 1131 42).toInt = (ps_i s0 1131 42).toInt from by omega) (show 1 ≤ (ps_i s 1131 5).toInt ∨ x2.toInt ≠ 1 ∨ (0 ≤ (ps_a s 1153 (Int32.toNatClampNeg x1)).toInt ∧ (ps_a s 1153 (Int32.toNatClampNeg x1)).toInt < ax) from by omega) (show 1 ≤ (ps_i s 1131 5).toInt ∨ x2.toInt = 0 ∨ x2.toInt = 15 ∨ 0 ≤ (ps_a s 1153 (Int32.toNatClampNeg x1)).toInt from by omega)
  · have f10 : (2 : Int) < v7.toInt := xlt h8
    refine ms_237 J (show (ps_i s 1131 8).toInt ≤ (ps_i s 1131 4).toInt from by omega) (fun v11 s11 J11 K11 p11_0 p11_1 p11_2 p11_3 => ?_)
    have K12 := kpt K K11 rfl rfl
    have KC := K11
    have hS2 : Sg (ps_a s11 1135) (ps_a s11 1136) (ps_a s11 1138) (ps_a s11 1139) (ps_i s11 1131 22).toInt σ := by rw [show ps_a s11 1135 = ps_a s 1135 from (K11.2 1135 rfl).1, show ps_a s11 1136 = ps_a s 1136 from (K11.2 1136 rfl).1, show ps_a s11 1138 = ps_a s 1138 from (K11.2 1138 rfl).1, show ps_a s11 1139 = ps_a s 1139 from (K11.2 1139 rfl).1, show ps_i s11 1131 22 = ps_i s 1131 22 from kp_i K11 22 rfl]; exact hS2
    have hRs : SRs σ (ps_a s11 1134) (ps_a s11 1152) (ps_a s11 1153) ax (n0) := by rw [show ps_a s11 1134 = ps_a s 1134 from (K11.2 1134 rfl).1, show ps_a s11 1152 = ps_a s 1152 from (K11.2 1152 rfl).1, show ps_a s11 1153 = ps_a s 1153 from (K11.2 1153 rfl).1]; exact hRs
    have hFR : ∀ k : Nat, (k : Int) < 22468 ∨ 25748 ≤ (k : Int) → ps_a s11 1134 k = ps_a s0 1134 k := by rw [show ps_a s11 1134 = ps_a s 1134 from (K11.2 1134 rfl).1]; exact hFR
    have hax : (ps_a s11 1137 (Int32.toNatClampNeg (ps_i s11 1131 22))).toInt = ax := by rw [show ps_a s11 1137 = ps_a s 1137 from (K11.2 1137 rfl).1, show ps_i s11 1131 22 = ps_i s 1131 22 from kp_i K11 22 rfl]; exact hax
    have p11_0' : (ps_i s11 1131 8).toInt ≤ (ps_i s11 1131 4).toInt := p11_0
    have r13 := mf_8 J11
    have r14 := mf_4 J11
    have u15 : (ps_i s11 1131 4).toInt = (ps_i s 1131 4).toInt := xeq (kp_i K11 4 rfl)
    have p11_1' : 0 ≤ v11.toInt := p11_1
    have p11_2' : v11.toInt ≤ 9999 := p11_2
    have p11_3' : 1 ≤ (ps_i s 1131 5).toInt → 1 ≤ (ps_i s11 1131 5).toInt := p11_3
    have r16 := mf_5 J11
    refine ps_nd_i (show pm_in x1 40 = true from xgi (show 0 ≤ x1.toInt from by omega) (show x1.toInt < 40 from by omega)) ?_
    have J17 := mwa_1155 (i := (Int32.toNatClampNeg x1)) (v := v11) J11 (show 0 ≤ v11.toInt from by omega) (show v11.toInt ≤ 9999 from by omega)
    have K18 := kpa' K12 (r := 1155) (i := (Int32.toNatClampNeg x1)) (v := v11) rfl
    have r19 : 0 ≤ (ps_a s11 1152 (Int32.toNatClampNeg x1)).toInt ∧ (ps_a s11 1152 (Int32.toNatClampNeg x1)).toInt ≤ 18 := ma_1152 (i := x1) J11 (show 0 ≤ x1.toInt from by omega) (show x1.toInt < 40 from by omega)
    have u20 : (ps_a s11 1152 (Int32.toNatClampNeg x1)).toInt = (ps_a s 1152 (Int32.toNatClampNeg x1)).toInt := xeq (kp_a K11 1152 rfl _)
    have r21 := mf_42 J11
    have u22 : (ps_i s11 1131 42).toInt = (ps_i s 1131 42).toInt := xeq (kp_i K11 42 rfl)
    have r23 : -1 ≤ (ps_a s11 1153 (Int32.toNatClampNeg x1)).toInt ∧ (ps_a s11 1153 (Int32.toNatClampNeg x1)).toInt ≤ 9999 := ma_1153 (i := x1) J11 (show 0 ≤ x1.toInt from by omega) (show x1.toInt < 40 from by omega)
    have u24 : (ps_a s11 1153 (Int32.toNatClampNeg x1)).toInt = (ps_a s 1153 (Int32.toNatClampNeg x1)).toInt := xeq (kp_a K11 1153 rfl _)
    exact ms_238_106 (σ := σ) (ax := ax) (n0 := n0) k  x1 x2 _ J17 K18 hS2 hRs hFR hax (show (ps_i s11 1131 8).toInt ≤ (ps_i s11 1131 4).toInt from by omega) (show 0 ≤ x1.toInt from by omega) (show x1.toInt < 40 from by omega) (show 0 ≤ x2.toInt from by omega) (show x2.toInt ≤ 18 from by omega) (show (ps_a s11 1152 (Int32.toNatClampNeg x1)).toInt = x2.toInt from by omega) (show (ps_i s11 1131 42).toInt = x1.toInt from by omega) (show x1.toInt = n0 from by omega) (show (ps_i s11 1131 42).toInt = (ps_i s0 1131 42).toInt from by omega) (show 1 ≤ (ps_i s11 1131 5).toInt ∨ x2.toInt ≠ 1 ∨ (0 ≤ (ps_a s11 1153 (Int32.toNatClampNeg x1)).toInt ∧ (ps_a s11 1153 (Int32.toNatClampNeg x1)).toInt < ax) from by omega) (show 1 ≤ (ps_i s11 1131 5).toInt ∨ x2.toInt = 0 ∨ x2.toInt = 15 ∨ 0 ≤ (ps_a s11 1153 (Int32.toNatClampNeg x1)).toInt from by omega)

theorem ms_238_70 {x : Nat → Nat → Nat} {t : Int32} {d : Nat} {s0 : ps_S} {σ : mSig} {ax n0 : Int} {Q : Option Value → ps_S → Prop} (k : ∀ (s' : ps_S), mJ x t s' → kp [1134, 1143, 1144, 1145, 1146, 1147, 1148, 1152, 1153, 1154, 1155, 1156] [5, 6, 7, 8, 9, 10, 11, 23, 29, 30, 31, 32, 42] s0 s' → ((ps_i s' 1131 8).toInt ≤ (ps_i s' 1131 4).toInt) → (1 ≤ (ps_i s' 1131 5).toInt ∨ SRs σ (ps_a s' 1134) (ps_a s' 1152) (ps_a s' 1153) ax (ps_i s' 1131 42).toInt) → (∀ k : Nat, (k : Int) < 22468 ∨ 25748 ≤ (k : Int) → ps_a s' 1134 k = ps_a s0 1134 k) → (1 ≤ (ps_i s' 1131 5).toInt ∨ (ps_i s' 1131 42).toInt = (ps_i s0 1131 42).toInt + 1) → ((ps_i s0 1131 42).toInt ≤ (ps_i s' 1131 42).toInt) → Q none s') (x1 : Int32) (x2 : Int32) (s : ps_S) (J : mJ x t s) (K : kp [1134, 1143, 1144, 1145, 1146, 1147, 1148, 1152, 1153, 1154, 1155, 1156] [5, 6, 7, 8, 9, 10, 11, 23, 29, 30, 31, 32, 42] s0 s) (hS2 : Sg (ps_a s 1135) (ps_a s 1136) (ps_a s 1138) (ps_a s 1139) (ps_i s 1131 22).toInt σ) (hRs : SRs σ (ps_a s 1134) (ps_a s 1152) (ps_a s 1153) ax (n0)) (hFR : ∀ k : Nat, (k : Int) < 22468 ∨ 25748 ≤ (k : Int) → ps_a s 1134 k = ps_a s0 1134 k) (hax : (ps_a s 1137 (Int32.toNatClampNeg (ps_i s 1131 22))).toInt = ax) (i4 : (ps_i s 1131 8).toInt ≤ (ps_i s 1131 4).toInt) (i5 : 0 ≤ x1.toInt) (i6 : x1.toInt < 40) (i7 : 0 ≤ x2.toInt) (i8 : x2.toInt ≤ 18) (i9 : (ps_a s 1152 (Int32.toNatClampNeg x1)).toInt = x2.toInt) (i10 : (ps_i s 1131 42).toInt = x1.toInt) (i11 : x1.toInt = n0) (i12 : (ps_i s 1131 42).toInt = (ps_i s0 1131 42).toInt) (i13 : 1 ≤ (ps_i s 1131 5).toInt ∨ x2.toInt ≠ 1 ∨ (0 ≤ (ps_a s 1153 (Int32.toNatClampNeg x1)).toInt ∧ (ps_a s 1153 (Int32.toNatClampNeg x1)).toInt < ax)) (i14 : 1 ≤ (ps_i s 1131 5).toInt ∨ x2.toInt = 0 ∨ x2.toInt = 15 ∨ 0 ≤ (ps_a s 1153 (Int32.toNatClampNeg x1)).toInt) : ps_At (d + 6) 238 70 [(0, .ref 1131), (1, .int x1), (2, .int x2)] [] s Q := by
  have r1 := mf_8 J
  have r2 := mf_4 J
  have r3 : 0 ≤ (ps_a s 1152 (Int32.toNatClampNeg x1)).toInt ∧ (ps_a s 1152 (Int32.toNatClampNeg x1)).toInt ≤ 18 := ma_1152 (i := x1) J (show 0 ≤ x1.toInt from by omega) (show x1.toInt < 40 from by omega)
  have r4 := mf_42 J
  have r5 := mf_5 J
  have r6 : -1 ≤ (ps_a s 1153 (Int32.toNatClampNeg x1)).toInt ∧ (ps_a s 1153 (Int32.toNatClampNeg x1)).toInt ≤ 9999 := ma_1153 (i := x1) J (show 0 ≤ x1.toInt from by omega) (show x1.toInt < 40 from by omega)
  refine pg_238_70 (d := d + 5) ?_
  have ex : Int32.toNatClampNeg x1 = x1.toInt.toNat := rfl
  refine ms_234 J  (fun v7 p7_0 => ?_)
  have p7_0' : ((x2.toInt = 0 ∨ x2.toInt = 1 ∨ x2.toInt = 15) ∧ v7.toInt = 0) ∨ ((x2.toInt = 3 ∨ x2.toInt = 9 ∨ x2.toInt = 14 ∨ x2.toInt = 16) ∧ v7.toInt = 2) ∨ (x2.toInt = 8 ∧ v7.toInt = 3) ∨ (v7.toInt = 1 ∧ x2.toInt ≠ 0 ∧ x2.toInt ≠ 1 ∧ x2.toInt ≠ 15 ∧ x2.toInt ≠ 3 ∧ x2.toInt ≠ 9 ∧ x2.toInt ≠ 14 ∧ x2.toInt ≠ 16 ∧ x2.toInt ≠ 8) := p7_0
  refine And.intro (fun h8 => ?_) (fun h8 => ?_)
  · have f9 : v7.toInt ≤ (1 : Int) := xle h8
    exact ms_238_88 (σ := σ) (ax := ax) (n0 := n0) k  x1 x2 _ J K hS2 hRs hFR hax (show (ps_i s 1131 8).toInt ≤ (ps_i s 1131 4).toInt from by omega) (show 0 ≤ x1.toInt from by omega) (show x1.toInt < 40 from by omega) (show 0 ≤ x2.toInt from by omega) (show x2.toInt ≤ 18 from by omega) (show (ps_a s 1152 (Int32.toNatClampNeg x1)).toInt = x2.toInt from by omega) (show (ps_i s 1131 42).toInt = x1.toInt from by omega) (show x1.toInt = n0 from by omega) (show (ps_i s 1131 42).toInt = (ps_i s0 1131 42).toInt from by omega) (show 1 ≤ (ps_i s 1131 5).toInt ∨ x2.toInt ≠ 1 ∨ (0 ≤ (ps_a s 1153 (Int32.toNatClampNeg x1)).toInt ∧ (ps_a s 1153 (Int32.toNatClampNeg x1)).toInt < ax) from by omega) (show 1 ≤ (ps_i s 1131 5).toInt ∨ x2.toInt = 0 ∨ x2.toInt = 15 ∨ 0 ≤ (ps_a s 1153 (Int32.toNatClampNeg x1)).toInt from by omega)
  · have f10 : (1 : Int) < v7.toInt := xlt h8
    refine ms_237 J (show (ps_i s 1131 8).toInt ≤ (ps_i s 1131 4).toInt from by omega) (fun v11 s11 J11 K11 p11_0 p11_1 p11_2 p11_3 => ?_)
    have K12 := kpt K K11 rfl rfl
    have KC := K11
    have hS2 : Sg (ps_a s11 1135) (ps_a s11 1136) (ps_a s11 1138) (ps_a s11 1139) (ps_i s11 1131 22).toInt σ := by rw [show ps_a s11 1135 = ps_a s 1135 from (K11.2 1135 rfl).1, show ps_a s11 1136 = ps_a s 1136 from (K11.2 1136 rfl).1, show ps_a s11 1138 = ps_a s 1138 from (K11.2 1138 rfl).1, show ps_a s11 1139 = ps_a s 1139 from (K11.2 1139 rfl).1, show ps_i s11 1131 22 = ps_i s 1131 22 from kp_i K11 22 rfl]; exact hS2
    have hRs : SRs σ (ps_a s11 1134) (ps_a s11 1152) (ps_a s11 1153) ax (n0) := by rw [show ps_a s11 1134 = ps_a s 1134 from (K11.2 1134 rfl).1, show ps_a s11 1152 = ps_a s 1152 from (K11.2 1152 rfl).1, show ps_a s11 1153 = ps_a s 1153 from (K11.2 1153 rfl).1]; exact hRs
    have hFR : ∀ k : Nat, (k : Int) < 22468 ∨ 25748 ≤ (k : Int) → ps_a s11 1134 k = ps_a s0 1134 k := by rw [show ps_a s11 1134 = ps_a s 1134 from (K11.2 1134 rfl).1]; exact hFR
    have hax : (ps_a s11 1137 (Int32.toNatClampNeg (ps_i s11 1131 22))).toInt = ax := by rw [show ps_a s11 1137 = ps_a s 1137 from (K11.2 1137 rfl).1, show ps_i s11 1131 22 = ps_i s 1131 22 from kp_i K11 22 rfl]; exact hax
    have p11_0' : (ps_i s11 1131 8).toInt ≤ (ps_i s11 1131 4).toInt := p11_0
    have r13 := mf_8 J11
    have r14 := mf_4 J11
    have u15 : (ps_i s11 1131 4).toInt = (ps_i s 1131 4).toInt := xeq (kp_i K11 4 rfl)
    have p11_1' : 0 ≤ v11.toInt := p11_1
    have p11_2' : v11.toInt ≤ 9999 := p11_2
    have p11_3' : 1 ≤ (ps_i s 1131 5).toInt → 1 ≤ (ps_i s11 1131 5).toInt := p11_3
    have r16 := mf_5 J11
    refine ps_nd_i (show pm_in x1 40 = true from xgi (show 0 ≤ x1.toInt from by omega) (show x1.toInt < 40 from by omega)) ?_
    have J17 := mwa_1154 (i := (Int32.toNatClampNeg x1)) (v := v11) J11 (show 0 ≤ v11.toInt from by omega) (show v11.toInt ≤ 9999 from by omega)
    have K18 := kpa' K12 (r := 1154) (i := (Int32.toNatClampNeg x1)) (v := v11) rfl
    have r19 : 0 ≤ (ps_a s11 1152 (Int32.toNatClampNeg x1)).toInt ∧ (ps_a s11 1152 (Int32.toNatClampNeg x1)).toInt ≤ 18 := ma_1152 (i := x1) J11 (show 0 ≤ x1.toInt from by omega) (show x1.toInt < 40 from by omega)
    have u20 : (ps_a s11 1152 (Int32.toNatClampNeg x1)).toInt = (ps_a s 1152 (Int32.toNatClampNeg x1)).toInt := xeq (kp_a K11 1152 rfl _)
    have r21 := mf_42 J11
    have u22 : (ps_i s11 1131 42).toInt = (ps_i s 1131 42).toInt := xeq (kp_i K11 42 rfl)
    have r23 : -1 ≤ (ps_a s11 1153 (Int32.toNatClampNeg x1)).toInt ∧ (ps_a s11 1153 (Int32.toNatClampNeg x1)).toInt ≤ 9999 := ma_1153 (i := x1) J11 (show 0 ≤ x1.toInt from by omega) (show x1.toInt < 40 from by omega)
    have u24 : (ps_a s11 1153 (Int32.toNatClampNeg x1)).toInt = (ps_a s 1153 (Int32.toNatClampNeg x1)).toInt := xeq (kp_a K11 1153 rfl _)
    exact ms_238_88 (σ := σ) (ax := ax) (n0 := n0) k  x1 x2 _ J17 K18 hS2 hRs hFR hax (show (ps_i s11 1131 8).toInt ≤ (ps_i s11 1131 4).toInt from by omega) (show 0 ≤ x1.toInt from by omega) (show x1.toInt < 40 from by omega) (show 0 ≤ x2.toInt from by omega) (show x2.toInt ≤ 18 from by omega) (show (ps_a s11 1152 (Int32.toNatClampNeg x1)).toInt = x2.toInt from by omega) (show (ps_i s11 1131 42).toInt = x1.toInt from by omega) (show x1.toInt = n0 from by omega) (show (ps_i s11 1131 42).toInt = (ps_i s0 1131 42).toInt from by omega) (show 1 ≤ (ps_i s11 1131 5).toInt ∨ x2.toInt ≠ 1 ∨ (0 ≤ (ps_a s11 1153 (Int32.toNatClampNeg x1)).toInt ∧ (ps_a s11 1153 (Int32.toNatClampNeg x1)).toInt < ax) from by omega) (show 1 ≤ (ps_i s11 1131 5).toInt ∨ x2.toInt = 0 ∨ x2.toInt = 15 ∨ 0 ≤ (ps_a s11 1153 (Int32.toNatClampNeg x1)).toInt from by omega)

theorem ms_238_53 {x : Nat → Nat → Nat} {t : Int32} {d : Nat} {s0 : ps_S} {σ : mSig} {ax n0 : Int} {Q : Option Value → ps_S → Prop} (k : ∀ (s' : ps_S), mJ x t s' → kp [1134, 1143, 1144, 1145, 1146, 1147, 1148, 1152, 1153, 1154, 1155, 1156] [5, 6, 7, 8, 9, 10, 11, 23, 29, 30, 31, 32, 42] s0 s' → ((ps_i s' 1131 8).toInt ≤ (ps_i s' 1131 4).toInt) → (1 ≤ (ps_i s' 1131 5).toInt ∨ SRs σ (ps_a s' 1134) (ps_a s' 1152) (ps_a s' 1153) ax (ps_i s' 1131 42).toInt) → (∀ k : Nat, (k : Int) < 22468 ∨ 25748 ≤ (k : Int) → ps_a s' 1134 k = ps_a s0 1134 k) → (1 ≤ (ps_i s' 1131 5).toInt ∨ (ps_i s' 1131 42).toInt = (ps_i s0 1131 42).toInt + 1) → ((ps_i s0 1131 42).toInt ≤ (ps_i s' 1131 42).toInt) → Q none s') (x1 : Int32) (x2 : Int32) (s : ps_S) (J : mJ x t s) (K : kp [1134, 1143, 1144, 1145, 1146, 1147, 1148, 1152, 1153, 1154, 1155, 1156] [5, 6, 7, 8, 9, 10, 11, 23, 29, 30, 31, 32, 42] s0 s) (hS2 : Sg (ps_a s 1135) (ps_a s 1136) (ps_a s 1138) (ps_a s 1139) (ps_i s 1131 22).toInt σ) (hRs : SRs σ (ps_a s 1134) (ps_a s 1152) (ps_a s 1153) ax (n0)) (hFR : ∀ k : Nat, (k : Int) < 22468 ∨ 25748 ≤ (k : Int) → ps_a s 1134 k = ps_a s0 1134 k) (hax : (ps_a s 1137 (Int32.toNatClampNeg (ps_i s 1131 22))).toInt = ax) (i4 : (ps_i s 1131 8).toInt ≤ (ps_i s 1131 4).toInt) (i5 : 0 ≤ x1.toInt) (i6 : x1.toInt < 40) (i7 : 0 ≤ x2.toInt) (i8 : x2.toInt ≤ 18) (i9 : (ps_a s 1152 (Int32.toNatClampNeg x1)).toInt = x2.toInt) (i10 : (ps_i s 1131 42).toInt = x1.toInt) (i11 : x1.toInt = n0) (i12 : (ps_i s 1131 42).toInt = (ps_i s0 1131 42).toInt) (i13 : 1 ≤ (ps_i s 1131 5).toInt ∨ x2.toInt ≠ 1 ∨ (0 ≤ (ps_a s 1153 (Int32.toNatClampNeg x1)).toInt ∧ (ps_a s 1153 (Int32.toNatClampNeg x1)).toInt < ax)) : ps_At (d + 6) 238 53 [(0, .ref 1131), (1, .int x1), (2, .int x2)] [] s Q := by
  have r1 := mf_8 J
  have r2 := mf_4 J
  have r3 : 0 ≤ (ps_a s 1152 (Int32.toNatClampNeg x1)).toInt ∧ (ps_a s 1152 (Int32.toNatClampNeg x1)).toInt ≤ 18 := ma_1152 (i := x1) J (show 0 ≤ x1.toInt from by omega) (show x1.toInt < 40 from by omega)
  have r4 := mf_42 J
  have r5 := mf_5 J
  have r6 : -1 ≤ (ps_a s 1153 (Int32.toNatClampNeg x1)).toInt ∧ (ps_a s 1153 (Int32.toNatClampNeg x1)).toInt ≤ 9999 := ma_1153 (i := x1) J (show 0 ≤ x1.toInt from by omega) (show x1.toInt < 40 from by omega)
  refine pg_238_53 (d := d + 5) ?_
  have ex : Int32.toNatClampNeg x1 = x1.toInt.toNat := rfl
  refine ms_234 J  (fun v7 p7_0 => ?_)
  have p7_0' : ((x2.toInt = 0 ∨ x2.toInt = 1 ∨ x2.toInt = 15) ∧ v7.toInt = 0) ∨ ((x2.toInt = 3 ∨ x2.toInt = 9 ∨ x2.toInt = 14 ∨ x2.toInt = 16) ∧ v7.toInt = 2) ∨ (x2.toInt = 8 ∧ v7.toInt = 3) ∨ (v7.toInt = 1 ∧ x2.toInt ≠ 0 ∧ x2.toInt ≠ 1 ∧ x2.toInt ≠ 15 ∧ x2.toInt ≠ 3 ∧ x2.toInt ≠ 9 ∧ x2.toInt ≠ 14 ∧ x2.toInt ≠ 16 ∧ x2.toInt ≠ 8) := p7_0
  refine And.intro (fun h8 => ?_) (fun h8 => ?_)
  · have f9 : v7.toInt ≤ (0 : Int) := xle h8
    exact ms_238_70 (σ := σ) (ax := ax) (n0 := n0) k  x1 x2 _ J K hS2 hRs hFR hax (show (ps_i s 1131 8).toInt ≤ (ps_i s 1131 4).toInt from by omega) (show 0 ≤ x1.toInt from by omega) (show x1.toInt < 40 from by omega) (show 0 ≤ x2.toInt from by omega) (show x2.toInt ≤ 18 from by omega) (show (ps_a s 1152 (Int32.toNatClampNeg x1)).toInt = x2.toInt from by omega) (show (ps_i s 1131 42).toInt = x1.toInt from by omega) (show x1.toInt = n0 from by omega) (show (ps_i s 1131 42).toInt = (ps_i s0 1131 42).toInt from by omega) (show 1 ≤ (ps_i s 1131 5).toInt ∨ x2.toInt ≠ 1 ∨ (0 ≤ (ps_a s 1153 (Int32.toNatClampNeg x1)).toInt ∧ (ps_a s 1153 (Int32.toNatClampNeg x1)).toInt < ax) from by omega) (show 1 ≤ (ps_i s 1131 5).toInt ∨ x2.toInt = 0 ∨ x2.toInt = 15 ∨ 0 ≤ (ps_a s 1153 (Int32.toNatClampNeg x1)).toInt from by omega)
  · have f10 : (0 : Int) < v7.toInt := xlt h8
    refine ms_237 J (show (ps_i s 1131 8).toInt ≤ (ps_i s 1131 4).toInt from by omega) (fun v11 s11 J11 K11 p11_0 p11_1 p11_2 p11_3 => ?_)
    have K12 := kpt K K11 rfl rfl
    have KC := K11
    have hS2 : Sg (ps_a s11 1135) (ps_a s11 1136) (ps_a s11 1138) (ps_a s11 1139) (ps_i s11 1131 22).toInt σ := by rw [show ps_a s11 1135 = ps_a s 1135 from (K11.2 1135 rfl).1, show ps_a s11 1136 = ps_a s 1136 from (K11.2 1136 rfl).1, show ps_a s11 1138 = ps_a s 1138 from (K11.2 1138 rfl).1, show ps_a s11 1139 = ps_a s 1139 from (K11.2 1139 rfl).1, show ps_i s11 1131 22 = ps_i s 1131 22 from kp_i K11 22 rfl]; exact hS2
    have hRs : SRs σ (ps_a s11 1134) (ps_a s11 1152) (ps_a s11 1153) ax (n0) := by rw [show ps_a s11 1134 = ps_a s 1134 from (K11.2 1134 rfl).1, show ps_a s11 1152 = ps_a s 1152 from (K11.2 1152 rfl).1, show ps_a s11 1153 = ps_a s 1153 from (K11.2 1153 rfl).1]; exact hRs
    have hFR : ∀ k : Nat, (k : Int) < 22468 ∨ 25748 ≤ (k : Int) → ps_a s11 1134 k = ps_a s0 1134 k := by rw [show ps_a s11 1134 = ps_a s 1134 from (K11.2 1134 rfl).1]; exact hFR
    have hax : (ps_a s11 1137 (Int32.toNatClampNeg (ps_i s11 1131 22))).toInt = ax := by rw [show ps_a s11 1137 = ps_a s 1137 from (K11.2 1137 rfl).1, show ps_i s11 1131 22 = ps_i s 1131 22 from kp_i K11 22 rfl]; exact hax
    have p11_0' : (ps_i s11 1131 8).toInt ≤ (ps_i s11 1131 4).toInt := p11_0
    have r13 := mf_8 J11
    have r14 := mf_4 J11
    have u15 : (ps_i s11 1131 4).toInt = (ps_i s 1131 4).toInt := xeq (kp_i K11 4 rfl)
    have p11_1' : 0 ≤ v11.toInt := p11_1
    have p11_2' : v11.toInt ≤ 9999 := p11_2
    have p11_3' : 1 ≤ (ps_i s 1131 5).toInt → 1 ≤ (ps_i s11 1131 5).toInt := p11_3
    have r16 := mf_5 J11
    refine ps_nd_i (show pm_in x1 40 = true from xgi (show 0 ≤ x1.toInt from by omega) (show x1.toInt < 40 from by omega)) ?_
    have J17 := mwa_1153 (i := (Int32.toNatClampNeg x1)) (v := v11) J11 (show -1 ≤ v11.toInt from by omega) (show v11.toInt ≤ 9999 from by omega)
    have K18 := kpa' K12 (r := 1153) (i := (Int32.toNatClampNeg x1)) (v := v11) rfl
    have r19 : 0 ≤ (ps_a s11 1152 (Int32.toNatClampNeg x1)).toInt ∧ (ps_a s11 1152 (Int32.toNatClampNeg x1)).toInt ≤ 18 := ma_1152 (i := x1) J11 (show 0 ≤ x1.toInt from by omega) (show x1.toInt < 40 from by omega)
    have u20 : (ps_a s11 1152 (Int32.toNatClampNeg x1)).toInt = (ps_a s 1152 (Int32.toNatClampNeg x1)).toInt := xeq (kp_a K11 1152 rfl _)
    have r21 := mf_42 J11
    have u22 : (ps_i s11 1131 42).toInt = (ps_i s 1131 42).toInt := xeq (kp_i K11 42 rfl)
    have w23 : (ps_a (ps_ua s11 1153 (Int32.toNatClampNeg x1) v11) 1153 (Int32.toNatClampNeg x1)).toInt = v11.toInt := xeq ua_eq
    have r24 : -1 ≤ (ps_a (ps_ua s11 1153 (Int32.toNatClampNeg x1) v11) 1153 (Int32.toNatClampNeg x1)).toInt ∧ (ps_a (ps_ua s11 1153 (Int32.toNatClampNeg x1) v11) 1153 (Int32.toNatClampNeg x1)).toInt ≤ 9999 := ma_1153 (i := x1) J17 (show 0 ≤ x1.toInt from by omega) (show x1.toInt < 40 from by omega)
    exact ms_238_70 (σ := σ) (ax := ax) (n0 := n0) k  x1 x2 _ J17 K18 hS2 (SRs_set (i := Int32.toNatClampNeg x1) hRs (fun _ _ => rfl) (fun j hj => ua_ne hj) (by omega)) hFR hax (show (ps_i s11 1131 8).toInt ≤ (ps_i s11 1131 4).toInt from by omega) (show 0 ≤ x1.toInt from by omega) (show x1.toInt < 40 from by omega) (show 0 ≤ x2.toInt from by omega) (show x2.toInt ≤ 18 from by omega) (show (ps_a s11 1152 (Int32.toNatClampNeg x1)).toInt = x2.toInt from by omega) (show (ps_i s11 1131 42).toInt = x1.toInt from by omega) (show x1.toInt = n0 from by omega) (show (ps_i s11 1131 42).toInt = (ps_i s0 1131 42).toInt from by omega) (show 1 ≤ (ps_i s11 1131 5).toInt ∨ x2.toInt ≠ 1 ∨ (0 ≤ (ps_a (ps_ua s11 1153 (Int32.toNatClampNeg x1) v11) 1153 (Int32.toNatClampNeg x1)).toInt ∧ (ps_a (ps_ua s11 1153 (Int32.toNatClampNeg x1) v11) 1153 (Int32.toNatClampNeg x1)).toInt < ax) from by omega) (show 1 ≤ (ps_i s11 1131 5).toInt ∨ x2.toInt = 0 ∨ x2.toInt = 15 ∨ 0 ≤ (ps_a (ps_ua s11 1153 (Int32.toNatClampNeg x1) v11) 1153 (Int32.toNatClampNeg x1)).toInt from by omega)

theorem ms_238_24 {x : Nat → Nat → Nat} {t : Int32} {d : Nat} {s0 : ps_S} {σ : mSig} {ax n0 : Int} {Q : Option Value → ps_S → Prop} (k : ∀ (s' : ps_S), mJ x t s' → kp [1134, 1143, 1144, 1145, 1146, 1147, 1148, 1152, 1153, 1154, 1155, 1156] [5, 6, 7, 8, 9, 10, 11, 23, 29, 30, 31, 32, 42] s0 s' → ((ps_i s' 1131 8).toInt ≤ (ps_i s' 1131 4).toInt) → (1 ≤ (ps_i s' 1131 5).toInt ∨ SRs σ (ps_a s' 1134) (ps_a s' 1152) (ps_a s' 1153) ax (ps_i s' 1131 42).toInt) → (∀ k : Nat, (k : Int) < 22468 ∨ 25748 ≤ (k : Int) → ps_a s' 1134 k = ps_a s0 1134 k) → (1 ≤ (ps_i s' 1131 5).toInt ∨ (ps_i s' 1131 42).toInt = (ps_i s0 1131 42).toInt + 1) → ((ps_i s0 1131 42).toInt ≤ (ps_i s' 1131 42).toInt) → Q none s') (x1 : Int32) (x2 : Int32) (s : ps_S) (J : mJ x t s) (K : kp [1134, 1143, 1144, 1145, 1146, 1147, 1148, 1152, 1153, 1154, 1155, 1156] [5, 6, 7, 8, 9, 10, 11, 23, 29, 30, 31, 32, 42] s0 s) (hS2 : Sg (ps_a s 1135) (ps_a s 1136) (ps_a s 1138) (ps_a s 1139) (ps_i s 1131 22).toInt σ) (hRs : SRs σ (ps_a s 1134) (ps_a s 1152) (ps_a s 1153) ax (n0)) (hFR : ∀ k : Nat, (k : Int) < 22468 ∨ 25748 ≤ (k : Int) → ps_a s 1134 k = ps_a s0 1134 k) (hax : (ps_a s 1137 (Int32.toNatClampNeg (ps_i s 1131 22))).toInt = ax) (i4 : (ps_i s 1131 8).toInt ≤ (ps_i s 1131 4).toInt) (i5 : (ps_i s 1131 42).toInt = x1.toInt) (i6 : x1.toInt = n0) (i7 : (ps_i s 1131 42).toInt = (ps_i s0 1131 42).toInt) (i8 : -1 ≤ x2.toInt) (i9 : x2.toInt ≤ 18) (i10 : 1 ≤ (ps_i s 1131 5).toInt ∨ (0 ≤ x2.toInt ∧ x1.toInt < 40)) : ps_At (d + 6) 238 24 [(0, .ref 1131), (1, .int x1), (2, .int x2)] [] s Q := by
  have r1 := mf_8 J
  have r2 := mf_4 J
  have r3 := mf_42 J
  have r4 := mf_5 J
  refine pg_238_24 (d := d + 5) ?_
  have ex : Int32.toNatClampNeg x1 = x1.toInt.toNat := rfl
  refine ms_192 J  (fun v5 p5_0 b5 => ?_)
  have p5_0' : (v5.toInt = 0 ∧ 1 ≤ (ps_i s 1131 5).toInt) ∨ (v5.toInt = 1 ∧ (ps_i s 1131 5).toInt = 0) := p5_0
  refine And.intro (fun h6 => ?_) (fun h6 => ?_)
  · have f7 : v5.toInt ≠ (0 : Int) := xne h6
    refine ms_194 J (show (ps_i s 1131 8).toInt ≤ (ps_i s 1131 4).toInt from by omega) (fun s8 J8 K8 p8_0 => ?_)
    have K9 := kpt K K8 rfl rfl
    have KC := K8
    have hS2 : Sg (ps_a s8 1135) (ps_a s8 1136) (ps_a s8 1138) (ps_a s8 1139) (ps_i s8 1131 22).toInt σ := by rw [show ps_a s8 1135 = ps_a s 1135 from (K8.2 1135 rfl).1, show ps_a s8 1136 = ps_a s 1136 from (K8.2 1136 rfl).1, show ps_a s8 1138 = ps_a s 1138 from (K8.2 1138 rfl).1, show ps_a s8 1139 = ps_a s 1139 from (K8.2 1139 rfl).1, show ps_i s8 1131 22 = ps_i s 1131 22 from kp_i K8 22 rfl]; exact hS2
    have hRs : SRs σ (ps_a s8 1134) (ps_a s8 1152) (ps_a s8 1153) ax (n0) := by rw [show ps_a s8 1134 = ps_a s 1134 from (K8.2 1134 rfl).1, show ps_a s8 1152 = ps_a s 1152 from (K8.2 1152 rfl).1, show ps_a s8 1153 = ps_a s 1153 from (K8.2 1153 rfl).1]; exact hRs
    have hFR : ∀ k : Nat, (k : Int) < 22468 ∨ 25748 ≤ (k : Int) → ps_a s8 1134 k = ps_a s0 1134 k := by rw [show ps_a s8 1134 = ps_a s 1134 from (K8.2 1134 rfl).1]; exact hFR
    have hax : (ps_a s8 1137 (Int32.toNatClampNeg (ps_i s8 1131 22))).toInt = ax := by rw [show ps_a s8 1137 = ps_a s 1137 from (K8.2 1137 rfl).1, show ps_i s8 1131 22 = ps_i s 1131 22 from kp_i K8 22 rfl]; exact hax
    have p8_0' : (ps_i s8 1131 8).toInt ≤ (ps_i s8 1131 4).toInt := p8_0
    have r10 := mf_8 J8
    have r11 := mf_4 J8
    have u12 : (ps_i s8 1131 4).toInt = (ps_i s 1131 4).toInt := xeq (kp_i K8 4 rfl)
    refine ps_nd_i (show pm_in x1 40 = true from xgi (show 0 ≤ x1.toInt from by omega) (show x1.toInt < 40 from by omega)) ?_
    have J13 := mwa_1152 (i := (Int32.toNatClampNeg x1)) (v := x2) J8 (show 0 ≤ x2.toInt from by omega) (show x2.toInt ≤ 18 from by omega)
    have K14 := kpa' K9 (r := 1152) (i := (Int32.toNatClampNeg x1)) (v := x2) rfl
    have hRs : SRs σ (ps_a (ps_ua s8 1152 (Int32.toNatClampNeg x1) x2) 1134) (ps_a (ps_ua s8 1152 (Int32.toNatClampNeg x1) x2) 1152) (ps_a (ps_ua s8 1152 (Int32.toNatClampNeg x1) x2) 1153) ax (n0) := SRs_set (i := Int32.toNatClampNeg x1) hRs (fun j hj => ua_ne hj) (fun _ _ => rfl) (by omega)
    refine And.intro (fun h15 => ?_) (fun h15 => ?_)
    · have f16 : x2.toInt ≠ (1 : Int) := xne h15
      have w17 : (ps_a (ps_ua s8 1152 (Int32.toNatClampNeg x1) x2) 1152 (Int32.toNatClampNeg x1)).toInt = x2.toInt := xeq ua_eq
      have r18 : 0 ≤ (ps_a (ps_ua s8 1152 (Int32.toNatClampNeg x1) x2) 1152 (Int32.toNatClampNeg x1)).toInt ∧ (ps_a (ps_ua s8 1152 (Int32.toNatClampNeg x1) x2) 1152 (Int32.toNatClampNeg x1)).toInt ≤ 18 := ma_1152 (i := x1) J13 (show 0 ≤ x1.toInt from by omega) (show x1.toInt < 40 from by omega)
      have r19 := mf_42 J8
      have u20 : (ps_i s8 1131 42).toInt = (ps_i s 1131 42).toInt := xeq (kp_i K8 42 rfl)
      have r21 := mf_5 J8
      have u22 : (ps_i s8 1131 5).toInt = (ps_i s 1131 5).toInt := xeq (kp_i K8 5 rfl)
      have r23 : -1 ≤ (ps_a s8 1153 (Int32.toNatClampNeg x1)).toInt ∧ (ps_a s8 1153 (Int32.toNatClampNeg x1)).toInt ≤ 9999 := ma_1153 (i := x1) J8 (show 0 ≤ x1.toInt from by omega) (show x1.toInt < 40 from by omega)
      have u24 : (ps_a s8 1153 (Int32.toNatClampNeg x1)).toInt = (ps_a s 1153 (Int32.toNatClampNeg x1)).toInt := xeq (kp_a K8 1153 rfl _)
      have r25 : -1 ≤ (ps_a s 1153 (Int32.toNatClampNeg x1)).toInt ∧ (ps_a s 1153 (Int32.toNatClampNeg x1)).toInt ≤ 9999 := ma_1153 (i := x1) J (show 0 ≤ x1.toInt from by omega) (show x1.toInt < 40 from by omega)
      exact ms_238_53 (σ := σ) (ax := ax) (n0 := n0) k  x1 x2 _ J13 K14 hS2 hRs hFR hax (show (ps_i s8 1131 8).toInt ≤ (ps_i s8 1131 4).toInt from by omega) (show 0 ≤ x1.toInt from by omega) (show x1.toInt < 40 from by omega) (show 0 ≤ x2.toInt from by omega) (show x2.toInt ≤ 18 from by omega) (show (ps_a (ps_ua s8 1152 (Int32.toNatClampNeg x1) x2) 1152 (Int32.toNatClampNeg x1)).toInt = x2.toInt from by omega) (show (ps_i s8 1131 42).toInt = x1.toInt from by omega) (show x1.toInt = n0 from by omega) (show (ps_i s8 1131 42).toInt = (ps_i s0 1131 42).toInt from by omega) (show 1 ≤ (ps_i s8 1131 5).toInt ∨ x2.toInt ≠ 1 ∨ (0 ≤ (ps_a s8 1153 (Int32.toNatClampNeg x1)).toInt ∧ (ps_a s8 1153 (Int32.toNatClampNeg x1)).toInt < ax) from by omega)
    · have f26 : x2.toInt = (1 : Int) := xeq h15
      have r27 := mf_5 J8
      have u28 : (ps_i s8 1131 5).toInt = (ps_i s 1131 5).toInt := xeq (kp_i K8 5 rfl)
      refine ms_239 J13 (show (ps_i s8 1131 8).toInt ≤ (ps_i s8 1131 4).toInt from by omega) (show 0 ≤ x1.toInt from by omega) (show x1.toInt < 40 from by omega) (show (ps_i s8 1131 5).toInt = 0 from by omega) (fun s29 J29 K29 p29_0 p29_1 p29_2 => ?_)
      have K30 := kpt K14 K29 rfl rfl
      have KC := K29
      have hS2 : Sg (ps_a s29 1135) (ps_a s29 1136) (ps_a s29 1138) (ps_a s29 1139) (ps_i s29 1131 22).toInt σ := by rw [show ps_a s29 1135 = ps_a (ps_ua s8 1152 (Int32.toNatClampNeg x1) x2) 1135 from (K29.2 1135 rfl).1, show ps_a s29 1136 = ps_a (ps_ua s8 1152 (Int32.toNatClampNeg x1) x2) 1136 from (K29.2 1136 rfl).1, show ps_a s29 1138 = ps_a (ps_ua s8 1152 (Int32.toNatClampNeg x1) x2) 1138 from (K29.2 1138 rfl).1, show ps_a s29 1139 = ps_a (ps_ua s8 1152 (Int32.toNatClampNeg x1) x2) 1139 from (K29.2 1139 rfl).1, show ps_i s29 1131 22 = ps_i (ps_ua s8 1152 (Int32.toNatClampNeg x1) x2) 1131 22 from kp_i K29 22 rfl]; exact hS2
      have hFR : ∀ k : Nat, (k : Int) < 22468 ∨ 25748 ≤ (k : Int) → ps_a s29 1134 k = ps_a s0 1134 k := by rw [show ps_a s29 1134 = ps_a (ps_ua s8 1152 (Int32.toNatClampNeg x1) x2) 1134 from (K29.2 1134 rfl).1]; exact hFR
      have hax : (ps_a s29 1137 (Int32.toNatClampNeg (ps_i s29 1131 22))).toInt = ax := by rw [show ps_a s29 1137 = ps_a (ps_ua s8 1152 (Int32.toNatClampNeg x1) x2) 1137 from (K29.2 1137 rfl).1, show ps_i s29 1131 22 = ps_i (ps_ua s8 1152 (Int32.toNatClampNeg x1) x2) 1131 22 from kp_i K29 22 rfl]; exact hax
      have p29_0' : (ps_i s29 1131 8).toInt ≤ (ps_i s29 1131 4).toInt := p29_0
      have r31 := mf_8 J29
      have r32 := mf_4 J29
      have u33 : (ps_i s29 1131 4).toInt = (ps_i s8 1131 4).toInt := xeq (kp_i K29 4 rfl)
      have p29_1' : 1 ≤ (ps_i s29 1131 5).toInt ∨ (0 ≤ (ps_a s29 1153 (Int32.toNatClampNeg x1)).toInt ∧ (ps_a s29 1153 (Int32.toNatClampNeg x1)).toInt < (ps_a s29 1137 (Int32.toNatClampNeg (ps_i s29 1131 22))).toInt) := p29_1
      have r34 := mf_5 J29
      have r35 : -1 ≤ (ps_a s29 1153 (Int32.toNatClampNeg x1)).toInt ∧ (ps_a s29 1153 (Int32.toNatClampNeg x1)).toInt ≤ 9999 := ma_1153 (i := x1) J29 (show 0 ≤ x1.toInt from by omega) (show x1.toInt < 40 from by omega)
      have r36 := mf_22 J29
      have u37 : (ps_i s29 1131 22).toInt = (ps_i s8 1131 22).toInt := xeq (kp_i K29 22 rfl)
      have r38 := mf_22 J8
      have u39 : (ps_i s8 1131 22).toInt = (ps_i s 1131 22).toInt := xeq (kp_i K8 22 rfl)
      have r40 := mf_22 J
      have r41 : 0 ≤ (ps_a s29 1137 (Int32.toNatClampNeg (ps_i s29 1131 22))).toInt ∧ (ps_a s29 1137 (Int32.toNatClampNeg (ps_i s29 1131 22))).toInt ≤ 8 := ma_1137 (i := (ps_i s29 1131 22)) J29 (show 0 ≤ (ps_i s29 1131 22).toInt from by omega) (show (ps_i s29 1131 22).toInt < 2 from by omega)
      have u42 : (ps_a s29 1137 (Int32.toNatClampNeg (ps_i s29 1131 22))).toInt = (ps_a s8 1137 (Int32.toNatClampNeg (ps_i s29 1131 22))).toInt := xeq (kp_a K29 1137 rfl _)
      have r43 : 0 ≤ (ps_a s8 1137 (Int32.toNatClampNeg (ps_i s29 1131 22))).toInt ∧ (ps_a s8 1137 (Int32.toNatClampNeg (ps_i s29 1131 22))).toInt ≤ 8 := ma_1137 (i := (ps_i s29 1131 22)) J8 (show 0 ≤ (ps_i s29 1131 22).toInt from by omega) (show (ps_i s29 1131 22).toInt < 2 from by omega)
      have u44 : (ps_a s8 1137 (Int32.toNatClampNeg (ps_i s29 1131 22))).toInt = (ps_a s 1137 (Int32.toNatClampNeg (ps_i s29 1131 22))).toInt := xeq (kp_a K8 1137 rfl _)
      have r45 : 0 ≤ (ps_a s 1137 (Int32.toNatClampNeg (ps_i s29 1131 22))).toInt ∧ (ps_a s 1137 (Int32.toNatClampNeg (ps_i s29 1131 22))).toInt ≤ 8 := ma_1137 (i := (ps_i s29 1131 22)) J (show 0 ≤ (ps_i s29 1131 22).toInt from by omega) (show (ps_i s29 1131 22).toInt < 2 from by omega)
      have hk3 : _ := p29_2
      have r46 : 0 ≤ (ps_a s29 1152 (Int32.toNatClampNeg x1)).toInt ∧ (ps_a s29 1152 (Int32.toNatClampNeg x1)).toInt ≤ 18 := ma_1152 (i := x1) J29 (show 0 ≤ x1.toInt from by omega) (show x1.toInt < 40 from by omega)
      have u47 : (ps_a s29 1152 (Int32.toNatClampNeg x1)).toInt = (ps_a (ps_ua s8 1152 (Int32.toNatClampNeg x1) x2) 1152 (Int32.toNatClampNeg x1)).toInt := xeq (kp_a K29 1152 rfl _)
      have w48 : (ps_a (ps_ua s8 1152 (Int32.toNatClampNeg x1) x2) 1152 (Int32.toNatClampNeg x1)).toInt = x2.toInt := xeq ua_eq
      have r49 := mf_42 J29
      have u50 : (ps_i s29 1131 42).toInt = (ps_i s8 1131 42).toInt := xeq (kp_i K29 42 rfl)
      have r51 := mf_42 J8
      have u52 : (ps_i s8 1131 42).toInt = (ps_i s 1131 42).toInt := xeq (kp_i K8 42 rfl)
      exact ms_238_53 (σ := σ) (ax := ax) (n0 := n0) k  x1 x2 _ J29 K30 hS2 ((by rw [show ps_a s29 1134 = ps_a (ps_ua s8 1152 (Int32.toNatClampNeg x1) x2) 1134 from (KC.2 1134 rfl).1, show ps_a s29 1152 = ps_a (ps_ua s8 1152 (Int32.toNatClampNeg x1) x2) 1152 from (KC.2 1152 rfl).1]; exact SRs_set (i := Int32.toNatClampNeg x1) hRs (fun _ _ => rfl) (fun j hj => hk3 j hj) (by omega))) hFR hax (show (ps_i s29 1131 8).toInt ≤ (ps_i s29 1131 4).toInt from by omega) (show 0 ≤ x1.toInt from by omega) (show x1.toInt < 40 from by omega) (show 0 ≤ x2.toInt from by omega) (show x2.toInt ≤ 18 from by omega) (show (ps_a s29 1152 (Int32.toNatClampNeg x1)).toInt = x2.toInt from by omega) (show (ps_i s29 1131 42).toInt = x1.toInt from by omega) (show x1.toInt = n0 from by omega) (show (ps_i s29 1131 42).toInt = (ps_i s0 1131 42).toInt from by omega) (show 1 ≤ (ps_i s29 1131 5).toInt ∨ x2.toInt ≠ 1 ∨ (0 ≤ (ps_a s29 1153 (Int32.toNatClampNeg x1)).toInt ∧ (ps_a s29 1153 (Int32.toNatClampNeg x1)).toInt < ax) from by omega)
  · have f53 : v5.toInt = (0 : Int) := xeq h6
    exact k _ J K (show (ps_i s 1131 8).toInt ≤ (ps_i s 1131 4).toInt from by omega) (Or.inl (show 1 ≤ (ps_i s 1131 5).toInt from by omega)) (hFR) (show 1 ≤ (ps_i s 1131 5).toInt ∨ (ps_i s 1131 42).toInt = (ps_i s0 1131 42).toInt + 1 from by omega) (show (ps_i s0 1131 42).toInt ≤ (ps_i s 1131 42).toInt from by omega)

theorem ms_238_20 {x : Nat → Nat → Nat} {t : Int32} {d : Nat} {s0 : ps_S} {σ : mSig} {ax n0 : Int} {Q : Option Value → ps_S → Prop} (k : ∀ (s' : ps_S), mJ x t s' → kp [1134, 1143, 1144, 1145, 1146, 1147, 1148, 1152, 1153, 1154, 1155, 1156] [5, 6, 7, 8, 9, 10, 11, 23, 29, 30, 31, 32, 42] s0 s' → ((ps_i s' 1131 8).toInt ≤ (ps_i s' 1131 4).toInt) → (1 ≤ (ps_i s' 1131 5).toInt ∨ SRs σ (ps_a s' 1134) (ps_a s' 1152) (ps_a s' 1153) ax (ps_i s' 1131 42).toInt) → (∀ k : Nat, (k : Int) < 22468 ∨ 25748 ≤ (k : Int) → ps_a s' 1134 k = ps_a s0 1134 k) → (1 ≤ (ps_i s' 1131 5).toInt ∨ (ps_i s' 1131 42).toInt = (ps_i s0 1131 42).toInt + 1) → ((ps_i s0 1131 42).toInt ≤ (ps_i s' 1131 42).toInt) → Q none s') (x1 : Int32) (x2 : Int32) (s : ps_S) (J : mJ x t s) (K : kp [1134, 1143, 1144, 1145, 1146, 1147, 1148, 1152, 1153, 1154, 1155, 1156] [5, 6, 7, 8, 9, 10, 11, 23, 29, 30, 31, 32, 42] s0 s) (hS2 : Sg (ps_a s 1135) (ps_a s 1136) (ps_a s 1138) (ps_a s 1139) (ps_i s 1131 22).toInt σ) (hRs : SRs σ (ps_a s 1134) (ps_a s 1152) (ps_a s 1153) ax (n0)) (hFR : ∀ k : Nat, (k : Int) < 22468 ∨ 25748 ≤ (k : Int) → ps_a s 1134 k = ps_a s0 1134 k) (hax : (ps_a s 1137 (Int32.toNatClampNeg (ps_i s 1131 22))).toInt = ax) (i4 : (ps_i s 1131 8).toInt ≤ (ps_i s 1131 4).toInt) (i5 : (ps_i s 1131 5).toInt = 0) (i6 : (ps_i s 1131 42).toInt = x1.toInt) (i7 : x1.toInt = n0) (i8 : (ps_i s 1131 42).toInt = (ps_i s0 1131 42).toInt) (i9 : -1 ≤ x2.toInt) (i10 : x2.toInt ≤ 18) (i11 : x2.toInt < 0 ∨ x1.toInt = 40) : ps_At (d + 6) 238 20 [(0, .ref 1131), (1, .int x1), (2, .int x2)] [] s Q := by
  have r1 := mf_8 J
  have r2 := mf_4 J
  have r3 := mf_5 J
  have r4 := mf_42 J
  refine pg_238_20 (d := d + 5) ?_
  refine ms_196 J  (fun s5 J5 K5 p5_0 => ?_)
  have K6 := kpt K K5 rfl rfl
  have KC := K5
  have hS2 : Sg (ps_a s5 1135) (ps_a s5 1136) (ps_a s5 1138) (ps_a s5 1139) (ps_i s5 1131 22).toInt σ := by rw [show ps_a s5 1135 = ps_a s 1135 from (K5.2 1135 rfl).1, show ps_a s5 1136 = ps_a s 1136 from (K5.2 1136 rfl).1, show ps_a s5 1138 = ps_a s 1138 from (K5.2 1138 rfl).1, show ps_a s5 1139 = ps_a s 1139 from (K5.2 1139 rfl).1, show ps_i s5 1131 22 = ps_i s 1131 22 from kp_i K5 22 rfl]; exact hS2
  have hRs : SRs σ (ps_a s5 1134) (ps_a s5 1152) (ps_a s5 1153) ax (n0) := by rw [show ps_a s5 1134 = ps_a s 1134 from (K5.2 1134 rfl).1, show ps_a s5 1152 = ps_a s 1152 from (K5.2 1152 rfl).1, show ps_a s5 1153 = ps_a s 1153 from (K5.2 1153 rfl).1]; exact hRs
  have hFR : ∀ k : Nat, (k : Int) < 22468 ∨ 25748 ≤ (k : Int) → ps_a s5 1134 k = ps_a s0 1134 k := by rw [show ps_a s5 1134 = ps_a s 1134 from (K5.2 1134 rfl).1]; exact hFR
  have hax : (ps_a s5 1137 (Int32.toNatClampNeg (ps_i s5 1131 22))).toInt = ax := by rw [show ps_a s5 1137 = ps_a s 1137 from (K5.2 1137 rfl).1, show ps_i s5 1131 22 = ps_i s 1131 22 from kp_i K5 22 rfl]; exact hax
  have p5_0' : 1 ≤ (ps_i s5 1131 5).toInt := p5_0
  have r7 := mf_5 J5
  have r8 := mf_8 J5
  have u9 : (ps_i s5 1131 8).toInt = (ps_i s 1131 8).toInt := xeq (kp_i K5 8 rfl)
  have r10 := mf_4 J5
  have u11 : (ps_i s5 1131 4).toInt = (ps_i s 1131 4).toInt := xeq (kp_i K5 4 rfl)
  have r12 := mf_42 J5
  have u13 : (ps_i s5 1131 42).toInt = (ps_i s 1131 42).toInt := xeq (kp_i K5 42 rfl)
  exact ms_238_24 (σ := σ) (ax := ax) (n0 := n0) k  x1 x2 _ J5 K6 hS2 hRs hFR hax (show (ps_i s5 1131 8).toInt ≤ (ps_i s5 1131 4).toInt from by omega) (show (ps_i s5 1131 42).toInt = x1.toInt from by omega) (show x1.toInt = n0 from by omega) (show (ps_i s5 1131 42).toInt = (ps_i s0 1131 42).toInt from by omega) (show -1 ≤ x2.toInt from by omega) (show x2.toInt ≤ 18 from by omega) (show 1 ≤ (ps_i s5 1131 5).toInt ∨ (0 ≤ x2.toInt ∧ x1.toInt < 40) from by omega)

theorem ms_238 {x : Nat → Nat → Nat} {t : Int32} {s : ps_S} {d : Nat} {f : ps_S → Prop} (J : mJ x t s) {σ : mSig} {ax n0 : Int} (hS2 : Sg (ps_a s 1135) (ps_a s 1136) (ps_a s 1138) (ps_a s 1139) (ps_i s 1131 22).toInt σ) (hRs : SRs σ (ps_a s 1134) (ps_a s 1152) (ps_a s 1153) ax (n0)) (hax : (ps_a s 1137 (Int32.toNatClampNeg (ps_i s 1131 22))).toInt = ax) (q3 : (ps_i s 1131 8).toInt ≤ (ps_i s 1131 4).toInt) (q4 : (ps_i s 1131 5).toInt = 0) (q5 : (ps_i s 1131 42).toInt = n0) (k : ∀ (s' : ps_S), mJ x t s' → kp [1134, 1143, 1144, 1145, 1146, 1147, 1148, 1152, 1153, 1154, 1155, 1156] [5, 6, 7, 8, 9, 10, 11, 23, 29, 30, 31, 32, 42] s s' → ((ps_i s' 1131 8).toInt ≤ (ps_i s' 1131 4).toInt) → (1 ≤ (ps_i s' 1131 5).toInt ∨ SRs σ (ps_a s' 1134) (ps_a s' 1152) (ps_a s' 1153) ax (ps_i s' 1131 42).toInt) → (∀ k : Nat, (k : Int) < 22468 ∨ 25748 ≤ (k : Int) → ps_a s' 1134 k = ps_a s 1134 k) → (1 ≤ (ps_i s' 1131 5).toInt ∨ (ps_i s' 1131 42).toInt = (ps_i s 1131 42).toInt + 1) → ((ps_i s 1131 42).toInt ≤ (ps_i s' 1131 42).toInt) → f s') : ps_Cl (d + 6) 238 [.ref 1131] s (ps_rV f) := by
  have r1 := mf_8 J
  have r2 := mf_4 J
  have r3 := mf_5 J
  have K : kp [1134, 1143, 1144, 1145, 1146, 1147, 1148, 1152, 1153, 1154, 1155, 1156] [5, 6, 7, 8, 9, 10, 11, 23, 29, 30, 31, 32, 42] s s := kp_refl
  refine pg_238_0 (d := d + 5) ?_
  have hFR : ∀ k : Nat, (k : Int) < 22468 ∨ 25748 ≤ (k : Int) → ps_a s 1134 k = ps_a s 1134 k := fun _ _ => rfl
  have r4 := mf_42 J
  refine ms_233 J  (fun v5 p5_0 p5_1 p5_2 => ?_)
  have p5_0' : -1 ≤ v5.toInt := p5_0
  have p5_1' : v5.toInt ≤ 18 := p5_1
  have p5_2' : v5.toInt = -1 ∨ (ps_i s 1131 9).toInt = 3 := p5_2
  have r6 := mf_9 J
  refine And.intro (fun h7 => ?_) (fun h7 => ?_)
  · have f8 : v5.toInt < (0 : Int) := xlt h7
    exact ms_238_20 (σ := σ) (ax := ax) (n0 := n0) k  (ps_i s 1131 42) v5 _ J K hS2 hRs hFR hax (show (ps_i s 1131 8).toInt ≤ (ps_i s 1131 4).toInt from by omega) (show (ps_i s 1131 5).toInt = 0 from by omega) (show (ps_i s 1131 42).toInt = (ps_i s 1131 42).toInt from by omega) (show (ps_i s 1131 42).toInt = n0 from by omega) (show (ps_i s 1131 42).toInt = (ps_i s 1131 42).toInt from by omega) (show -1 ≤ v5.toInt from by omega) (show v5.toInt ≤ 18 from by omega) (show v5.toInt < 0 ∨ (ps_i s 1131 42).toInt = 40 from by omega)
  · have f9 : (0 : Int) ≤ v5.toInt := xle h7
    refine And.intro (fun h10 => ?_) (fun h10 => ?_)
    · have f11 : (ps_i s 1131 42).toInt ≠ (40 : Int) := xne h10
      exact ms_238_24 (σ := σ) (ax := ax) (n0 := n0) k  (ps_i s 1131 42) v5 _ J K hS2 hRs hFR hax (show (ps_i s 1131 8).toInt ≤ (ps_i s 1131 4).toInt from by omega) (show (ps_i s 1131 42).toInt = (ps_i s 1131 42).toInt from by omega) (show (ps_i s 1131 42).toInt = n0 from by omega) (show (ps_i s 1131 42).toInt = (ps_i s 1131 42).toInt from by omega) (show -1 ≤ v5.toInt from by omega) (show v5.toInt ≤ 18 from by omega) (show 1 ≤ (ps_i s 1131 5).toInt ∨ (0 ≤ v5.toInt ∧ (ps_i s 1131 42).toInt < 40) from by omega)
    · have f12 : (ps_i s 1131 42).toInt = (40 : Int) := xeq h10
      exact ms_238_20 (σ := σ) (ax := ax) (n0 := n0) k  (ps_i s 1131 42) v5 _ J K hS2 hRs hFR hax (show (ps_i s 1131 8).toInt ≤ (ps_i s 1131 4).toInt from by omega) (show (ps_i s 1131 5).toInt = 0 from by omega) (show (ps_i s 1131 42).toInt = (ps_i s 1131 42).toInt from by omega) (show (ps_i s 1131 42).toInt = n0 from by omega) (show (ps_i s 1131 42).toInt = (ps_i s 1131 42).toInt from by omega) (show -1 ≤ v5.toInt from by omega) (show v5.toInt ≤ 18 from by omega) (show v5.toInt < 0 ∨ (ps_i s 1131 42).toInt = 40 from by omega)
