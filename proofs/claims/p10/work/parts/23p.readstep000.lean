set_option maxRecDepth 100000
-- ProofBenchModel.readStep()V
theorem pg_238_0 {d : Nat} {s : ps_S} {Q : Option Value → ps_S → Prop} (h :
  ps_Cl d 233 [.ref 1131] s (ps_rI (fun v1 s1 =>
    (v1 < 0 →
      ps_At (d + 1) 238 20 [(0, .ref 1131), (1, .int (ps_i s 1131 42)), (2, .int v1)] [] s1 Q) ∧
    (0 ≤ v1 →
      ((ps_i s 1131 42) ≠ 40 →
        ps_At (d + 1) 238 24 [(0, .ref 1131), (1, .int (ps_i s 1131 42)), (2, .int v1)] [] s1 Q) ∧
      ((ps_i s 1131 42) = 40 →
        ps_At (d + 1) 238 20 [(0, .ref 1131), (1, .int (ps_i s 1131 42)), (2, .int v1)] [] s1 Q))))) : ps_At (d + 1) 238 0 [(0, .ref 1131)] [] s Q :=
  ps_wp_at (stops := [(20, [0, 1, 2]), (24, [0, 1, 2]), (53, [0, 1, 2]), (70, [0, 1, 2]), (88, [0, 1, 2]), (106, [0, 1, 2]), (134, [0, 1, 2]), (162, [0, 1, 2]), (181, [0, 1]), (205, [0]), (216, [0])]) (n := 13) h rfl


theorem pg_238_20 {d : Nat} {x1 : Int32} {x2 : Int32} {s : ps_S} {Q : Option Value → ps_S → Prop} (h :
  ps_Cl d 196 [.ref 1131] s (ps_rV (fun s1 =>
    ps_At (d + 1) 238 24 [(0, .ref 1131), (1, .int x1), (2, .int x2)] [] s1 Q))) : ps_At (d + 1) 238 20 [(0, .ref 1131), (1, .int x1), (2, .int x2)] [] s Q :=
  ps_wp_at (stops := [(20, [0, 1, 2]), (24, [0, 1, 2]), (53, [0, 1, 2]), (70, [0, 1, 2]), (88, [0, 1, 2]), (106, [0, 1, 2]), (134, [0, 1, 2]), (162, [0, 1, 2]), (181, [0, 1]), (205, [0]), (216, [0])]) (n := 4) h rfl


theorem pg_238_24 {d : Nat} {x1 : Int32} {x2 : Int32} {s : ps_S} {Q : Option Value → ps_S → Prop} (h :
  ps_Cl d 192 [.ref 1131] s (ps_rI (fun v1 s1 =>
    (v1 ≠ 0 →
      ps_Cl d 194 [.ref 1131] s1 (ps_rV (fun s2 =>
        ps_nd (pm_in x1 40) ((x2 ≠ 1 →
          ps_At (d + 1) 238 53 [(0, .ref 1131), (1, .int x1), (2, .int x2)] [] (ps_ua s2 1152 (Int32.toNatClampNeg x1) x2) Q) ∧
        (x2 = 1 →
          ps_Cl d 239 [.ref 1131, .int x1] (ps_ua s2 1152 (Int32.toNatClampNeg x1) x2) (ps_rV (fun s3 =>
            ps_At (d + 1) 238 53 [(0, .ref 1131), (1, .int x1), (2, .int x2)] [] s3 Q))))))) ∧
    (v1 = 0 →
      Q none s1)))) : ps_At (d + 1) 238 24 [(0, .ref 1131), (1, .int x1), (2, .int x2)] [] s Q :=
  ps_wp_at (stops := [(20, [0, 1, 2]), (24, [0, 1, 2]), (53, [0, 1, 2]), (70, [0, 1, 2]), (88, [0, 1, 2]), (106, [0, 1, 2]), (134, [0, 1, 2]), (162, [0, 1, 2]), (181, [0, 1]), (205, [0]), (216, [0])]) (n := 19) h rfl


theorem pg_238_53 {d : Nat} {x1 : Int32} {x2 : Int32} {s : ps_S} {Q : Option Value → ps_S → Prop} (h :
  ps_Cl d 234 [.int x2] s (ps_rI (fun v1 s1 =>
    (v1 ≤ 0 →
      ps_At (d + 1) 238 70 [(0, .ref 1131), (1, .int x1), (2, .int x2)] [] s1 Q) ∧
    (0 < v1 →
      ps_Cl d 237 [.ref 1131] s1 (ps_rI (fun v2 s2 =>
        ps_nd (pm_in x1 40) (ps_At (d + 1) 238 70 [(0, .ref 1131), (1, .int x1), (2, .int x2)] [] (ps_ua s2 1153 (Int32.toNatClampNeg x1) v2) Q))))))) : ps_At (d + 1) 238 53 [(0, .ref 1131), (1, .int x1), (2, .int x2)] [] s Q :=
  ps_wp_at (stops := [(20, [0, 1, 2]), (24, [0, 1, 2]), (53, [0, 1, 2]), (70, [0, 1, 2]), (88, [0, 1, 2]), (106, [0, 1, 2]), (134, [0, 1, 2]), (162, [0, 1, 2]), (181, [0, 1]), (205, [0]), (216, [0])]) (n := 11) h rfl


theorem pg_238_70 {d : Nat} {x1 : Int32} {x2 : Int32} {s : ps_S} {Q : Option Value → ps_S → Prop} (h :
  ps_Cl d 234 [.int x2] s (ps_rI (fun v1 s1 =>
    (v1 ≤ 1 →
      ps_At (d + 1) 238 88 [(0, .ref 1131), (1, .int x1), (2, .int x2)] [] s1 Q) ∧
    (1 < v1 →
      ps_Cl d 237 [.ref 1131] s1 (ps_rI (fun v2 s2 =>
        ps_nd (pm_in x1 40) (ps_At (d + 1) 238 88 [(0, .ref 1131), (1, .int x1), (2, .int x2)] [] (ps_ua s2 1154 (Int32.toNatClampNeg x1) v2) Q))))))) : ps_At (d + 1) 238 70 [(0, .ref 1131), (1, .int x1), (2, .int x2)] [] s Q :=
  ps_wp_at (stops := [(20, [0, 1, 2]), (24, [0, 1, 2]), (53, [0, 1, 2]), (70, [0, 1, 2]), (88, [0, 1, 2]), (106, [0, 1, 2]), (134, [0, 1, 2]), (162, [0, 1, 2]), (181, [0, 1]), (205, [0]), (216, [0])]) (n := 12) h rfl

