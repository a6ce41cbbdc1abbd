set_option maxRecDepth 100000
theorem pg_238_88 {d : Nat} {x1 : Int32} {x2 : Int32} {s : ps_S} {Q : Option Value → ps_S → Prop} (h :
  ps_Cl d 234 [.int x2] s (ps_rI (fun v1 s1 =>
    (v1 ≤ 2 →
      ps_At (d + 1) 238 106 [(0, .ref 1131), (1, .int x1), (2, .int x2)] [] s1 Q) ∧
    (2 < v1 →
      ps_Cl d 237 [.ref 1131] s1 (ps_rI (fun v2 s2 =>
        ps_nd (pm_in x1 40) (ps_At (d + 1) 238 106 [(0, .ref 1131), (1, .int x1), (2, .int x2)] [] (ps_ua s2 1155 (Int32.toNatClampNeg x1) v2) Q))))))) : ps_At (d + 1) 238 88 [(0, .ref 1131), (1, .int x1), (2, .int x2)] [] s Q :=
  ps_wp_at (stops := [(20, [0, 1, 2]), (24, [0, 1, 2]), (53, [0, 1, 2]), (70, [0, 1, 2]), (88, [0, 1, 2]), (106, [0, 1, 2]), (134, [0, 1, 2]), (162, [0, 1, 2]), (181, [0, 1]), (205, [0]), (216, [0])]) (n := 12) h rfl


theorem pg_238_106 {d : Nat} {x1 : Int32} {x2 : Int32} {s : ps_S} {Q : Option Value → ps_S → Prop} (h :
  ps_Cl d 192 [.ref 1131] s (ps_rI (fun v1 s1 =>
    (v1 = 0 →
      ps_At (d + 1) 238 134 [(0, .ref 1131), (1, .int x1), (2, .int x2)] [] s1 Q) ∧
    (v1 ≠ 0 →
      ps_Cl d 235 [.int x2] s1 (ps_rI (fun v2 s2 =>
        (v2 = 0 →
          ps_At (d + 1) 238 134 [(0, .ref 1131), (1, .int x1), (2, .int x2)] [] s2 Q) ∧
        (v2 ≠ 0 →
          ps_Cl d 209 [.ref 1131, .int ((24108 : Int32) + ((41 : Int32) * x1)), .int 0, .int 0] s2 (ps_rV (fun s3 =>
            ps_At (d + 1) 238 134 [(0, .ref 1131), (1, .int x1), (2, .int x2)] [] s3 Q))))))))) : ps_At (d + 1) 238 106 [(0, .ref 1131), (1, .int x1), (2, .int x2)] [] s Q :=
  ps_wp_at (stops := [(20, [0, 1, 2]), (24, [0, 1, 2]), (53, [0, 1, 2]), (70, [0, 1, 2]), (88, [0, 1, 2]), (106, [0, 1, 2]), (134, [0, 1, 2]), (162, [0, 1, 2]), (181, [0, 1]), (205, [0]), (216, [0])]) (n := 17) h rfl


theorem pg_238_134 {d : Nat} {x1 : Int32} {x2 : Int32} {s : ps_S} {Q : Option Value → ps_S → Prop} (h :
  ps_Cl d 192 [.ref 1131] s (ps_rI (fun v1 s1 =>
    (v1 = 0 →
      ps_At (d + 1) 238 162 [(0, .ref 1131), (1, .int x1), (2, .int x2)] [] s1 Q) ∧
    (v1 ≠ 0 →
      ps_Cl d 236 [.int x2] s1 (ps_rI (fun v2 s2 =>
        (v2 = 0 →
          ps_At (d + 1) 238 162 [(0, .ref 1131), (1, .int x1), (2, .int x2)] [] s2 Q) ∧
        (v2 ≠ 0 →
          ps_Cl d 209 [.ref 1131, .int ((22468 : Int32) + ((41 : Int32) * x1)), .int 1, .int 0] s2 (ps_rV (fun s3 =>
            ps_At (d + 1) 238 162 [(0, .ref 1131), (1, .int x1), (2, .int x2)] [] s3 Q))))))))) : ps_At (d + 1) 238 134 [(0, .ref 1131), (1, .int x1), (2, .int x2)] [] s Q :=
  ps_wp_at (stops := [(20, [0, 1, 2]), (24, [0, 1, 2]), (53, [0, 1, 2]), (70, [0, 1, 2]), (88, [0, 1, 2]), (106, [0, 1, 2]), (134, [0, 1, 2]), (162, [0, 1, 2]), (181, [0, 1]), (205, [0]), (216, [0])]) (n := 17) h rfl


theorem pg_238_162 {d : Nat} {x1 : Int32} {x2 : Int32} {s : ps_S} {Q : Option Value → ps_S → Prop} (h :
  ps_Cl d 192 [.ref 1131] s (ps_rI (fun v1 s1 =>
    (v1 = 0 →
      ps_At (d + 1) 238 216 [(0, .ref 1131)] [] s1 Q) ∧
    (v1 ≠ 0 →
      (x2 = 11 →
        ps_At (d + 1) 238 181 [(0, .ref 1131), (1, .int x1)] [] s1 Q) ∧
      (x2 ≠ 11 →
        (x2 ≠ 14 →
          ps_At (d + 1) 238 216 [(0, .ref 1131)] [] s1 Q) ∧
        (x2 = 14 →
          ps_At (d + 1) 238 181 [(0, .ref 1131), (1, .int x1)] [] s1 Q)))))) : ps_At (d + 1) 238 162 [(0, .ref 1131), (1, .int x1), (2, .int x2)] [] s Q :=
  ps_wp_at (stops := [(20, [0, 1, 2]), (24, [0, 1, 2]), (53, [0, 1, 2]), (70, [0, 1, 2]), (88, [0, 1, 2]), (106, [0, 1, 2]), (134, [0, 1, 2]), (162, [0, 1, 2]), (181, [0, 1]), (205, [0]), (216, [0])]) (n := 11) h rfl


theorem pg_238_181 {d : Nat} {x1 : Int32} {s : ps_S} {Q : Option Value → ps_S → Prop} (h :
  ps_Cl d 208 [.ref 1131] s (ps_rI (fun v1 s1 =>
    (v1 ≠ 0 →
      ps_Cl d 217 [.ref 1131] s1 (ps_rI (fun v2 s2 =>
        ps_nd (pm_in x1 40) (ps_At (d + 1) 238 205 [(0, .ref 1131)] [] (ps_ua s2 1156 (Int32.toNatClampNeg x1) v2) Q)))) ∧
    (v1 = 0 →
      ps_Cl d 196 [.ref 1131] s1 (ps_rV (fun s3 =>
        ps_At (d + 1) 238 205 [(0, .ref 1131)] [] s3 Q)))))) : ps_At (d + 1) 238 181 [(0, .ref 1131), (1, .int x1)] [] s Q :=
  ps_wp_at (stops := [(20, [0, 1, 2]), (24, [0, 1, 2]), (53, [0, 1, 2]), (70, [0, 1, 2]), (88, [0, 1, 2]), (106, [0, 1, 2]), (134, [0, 1, 2]), (162, [0, 1, 2]), (181, [0, 1]), (205, [0]), (216, [0])]) (n := 14) h rfl

