set_option maxRecDepth 100000
theorem pl_238_24 {n : Nat} {x1 : Int32} {x2 : Int32} {s : ps_S} {Q : Option Value → ps_S → Prop} (h :
  pl_Cl n 192 [.ref 1131] s (ps_rI (fun v1 s1 =>
    (v1 ≠ 0 →
      pl_Cl n 194 [.ref 1131] s1 (ps_rV (fun s2 =>
        (pm_in x1 40 = true →
          (x2 ≠ 1 →
            pl_At n 238 53 [(0, .ref 1131), (1, .int x1), (2, .int x2)] [] (ps_ua s2 1152 (Int32.toNatClampNeg x1) x2) Q) ∧
          (x2 = 1 →
            pl_Cl n 239 [.ref 1131, .int x1] (ps_ua s2 1152 (Int32.toNatClampNeg x1) x2) (ps_rV (fun s3 =>
              pl_At n 238 53 [(0, .ref 1131), (1, .int x1), (2, .int x2)] [] s3 Q))))))) ∧
    (v1 = 0 →
      Q none s1)))) : pl_At (n + 1) 238 24 [(0, .ref 1131), (1, .int x1), (2, .int x2)] [] s Q :=
  pl_wp_at (stops := [(20, [0, 1, 2]), (24, [0, 1, 2]), (53, [0, 1, 2]), (70, [0, 1, 2]), (88, [0, 1, 2]), (106, [0, 1, 2]), (134, [0, 1, 2]), (162, [0, 1, 2]), (181, [0, 1]), (205, [0]), (216, [0])]) (f := 19) h rfl


theorem pl_238_53 {n : Nat} {x1 : Int32} {x2 : Int32} {s : ps_S} {Q : Option Value → ps_S → Prop} (h :
  pl_Cl n 234 [.int x2] s (ps_rI (fun v1 s1 =>
    (v1 ≤ 0 →
      pl_At n 238 70 [(0, .ref 1131), (1, .int x1), (2, .int x2)] [] s1 Q) ∧
    (0 < v1 →
      pl_Cl n 237 [.ref 1131] s1 (ps_rI (fun v2 s2 =>
        (pm_in x1 40 = true →
          pl_At n 238 70 [(0, .ref 1131), (1, .int x1), (2, .int x2)] [] (ps_ua s2 1153 (Int32.toNatClampNeg x1) v2) Q))))))) : pl_At (n + 1) 238 53 [(0, .ref 1131), (1, .int x1), (2, .int x2)] [] s Q :=
  pl_wp_at (stops := [(20, [0, 1, 2]), (24, [0, 1, 2]), (53, [0, 1, 2]), (70, [0, 1, 2]), (88, [0, 1, 2]), (106, [0, 1, 2]), (134, [0, 1, 2]), (162, [0, 1, 2]), (181, [0, 1]), (205, [0]), (216, [0])]) (f := 11) h rfl


theorem pl_238_70 {n : Nat} {x1 : Int32} {x2 : Int32} {s : ps_S} {Q : Option Value → ps_S → Prop} (h :
  pl_Cl n 234 [.int x2] s (ps_rI (fun v1 s1 =>
    (v1 ≤ 1 →
      pl_At n 238 88 [(0, .ref 1131), (1, .int x1), (2, .int x2)] [] s1 Q) ∧
    (1 < v1 →
      pl_Cl n 237 [.ref 1131] s1 (ps_rI (fun v2 s2 =>
        (pm_in x1 40 = true →
          pl_At n 238 88 [(0, .ref 1131), (1, .int x1), (2, .int x2)] [] (ps_ua s2 1154 (Int32.toNatClampNeg x1) v2) Q))))))) : pl_At (n + 1) 238 70 [(0, .ref 1131), (1, .int x1), (2, .int x2)] [] s Q :=
  pl_wp_at (stops := [(20, [0, 1, 2]), (24, [0, 1, 2]), (53, [0, 1, 2]), (70, [0, 1, 2]), (88, [0, 1, 2]), (106, [0, 1, 2]), (134, [0, 1, 2]), (162, [0, 1, 2]), (181, [0, 1]), (205, [0]), (216, [0])]) (f := 12) h rfl


theorem pl_238_88 {n : Nat} {x1 : Int32} {x2 : Int32} {s : ps_S} {Q : Option Value → ps_S → Prop} (h :
  pl_Cl n 234 [.int x2] s (ps_rI (fun v1 s1 =>
    (v1 ≤ 2 →
      pl_At n 238 106 [(0, .ref 1131), (1, .int x1), (2, .int x2)] [] s1 Q) ∧
    (2 < v1 →
      pl_Cl n 237 [.ref 1131] s1 (ps_rI (fun v2 s2 =>
        (pm_in x1 40 = true →
          pl_At n 238 106 [(0, .ref 1131), (1, .int x1), (2, .int x2)] [] (ps_ua s2 1155 (Int32.toNatClampNeg x1) v2) Q))))))) : pl_At (n + 1) 238 88 [(0, .ref 1131), (1, .int x1), (2, .int x2)] [] s Q :=
  pl_wp_at (stops := [(20, [0, 1, 2]), (24, [0, 1, 2]), (53, [0, 1, 2]), (70, [0, 1, 2]), (88, [0, 1, 2]), (106, [0, 1, 2]), (134, [0, 1, 2]), (162, [0, 1, 2]), (181, [0, 1]), (205, [0]), (216, [0])]) (f := 12) h rfl


theorem pl_238_106 {n : Nat} {x1 : Int32} {x2 : Int32} {s : ps_S} {Q : Option Value → ps_S → Prop} (h :
  pl_Cl n 192 [.ref 1131] s (ps_rI (fun v1 s1 =>
    (v1 = 0 →
      pl_At n 238 134 [(0, .ref 1131), (1, .int x1), (2, .int x2)] [] s1 Q) ∧
    (v1 ≠ 0 →
      pl_Cl n 235 [.int x2] s1 (ps_rI (fun v2 s2 =>
        (v2 = 0 →
          pl_At n 238 134 [(0, .ref 1131), (1, .int x1), (2, .int x2)] [] s2 Q) ∧
        (v2 ≠ 0 →
          pl_Cl n 209 [.ref 1131, .int ((24108 : Int32) + ((41 : Int32) * x1)), .int 0, .int 0] s2 (ps_rV (fun s3 =>
            pl_At n 238 134 [(0, .ref 1131), (1, .int x1), (2, .int x2)] [] s3 Q))))))))) : pl_At (n + 1) 238 106 [(0, .ref 1131), (1, .int x1), (2, .int x2)] [] s Q :=
  pl_wp_at (stops := [(20, [0, 1, 2]), (24, [0, 1, 2]), (53, [0, 1, 2]), (70, [0, 1, 2]), (88, [0, 1, 2]), (106, [0, 1, 2]), (134, [0, 1, 2]), (162, [0, 1, 2]), (181, [0, 1]), (205, [0]), (216, [0])]) (f := 17) h rfl

