set_option maxRecDepth 100000
theorem pl_238_134 {n : Nat} {x1 : Int32} {x2 : Int32} {s : ps_S} {Q : Option Value → ps_S → Prop} (h :
  pl_Cl n 192 [.ref 1131] s (ps_rI (fun v1 s1 =>
    (v1 = 0 →
      pl_At n 238 162 [(0, .ref 1131), (1, .int x1), (2, .int x2)] [] s1 Q) ∧
    (v1 ≠ 0 →
      pl_Cl n 236 [.int x2] s1 (ps_rI (fun v2 s2 =>
        (v2 = 0 →
          pl_At n 238 162 [(0, .ref 1131), (1, .int x1), (2, .int x2)] [] s2 Q) ∧
        (v2 ≠ 0 →
          pl_Cl n 209 [.ref 1131, .int ((22468 : Int32) + ((41 : Int32) * x1)), .int 1, .int 0] s2 (ps_rV (fun s3 =>
            pl_At n 238 162 [(0, .ref 1131), (1, .int x1), (2, .int x2)] [] s3 Q))))))))) : pl_At (n + 1) 238 134 [(0, .ref 1131), (1, .int x1), (2, .int x2)] [] s Q :=
  pl_wp_at (stops := [(20, [0, 1, 2]), (24, [0, 1, 2]), (53, [0, 1, 2]), (70, [0, 1, 2]), (88, [0, 1, 2]), (106, [0, 1, 2]), (134, [0, 1, 2]), (162, [0, 1, 2]), (181, [0, 1]), (205, [0]), (216, [0])]) (f := 17) h rfl


theorem pl_238_162 {n : Nat} {x1 : Int32} {x2 : Int32} {s : ps_S} {Q : Option Value → ps_S → Prop} (h :
  pl_Cl n 192 [.ref 1131] s (ps_rI (fun v1 s1 =>
    (v1 = 0 →
      pl_At n 238 216 [(0, .ref 1131)] [] s1 Q) ∧
    (v1 ≠ 0 →
      (x2 = 11 →
        pl_At n 238 181 [(0, .ref 1131), (1, .int x1)] [] s1 Q) ∧
      (x2 ≠ 11 →
        (x2 ≠ 14 →
          pl_At n 238 216 [(0, .ref 1131)] [] s1 Q) ∧
        (x2 = 14 →
          pl_At n 238 181 [(0, .ref 1131), (1, .int x1)] [] s1 Q)))))) : pl_At (n + 1) 238 162 [(0, .ref 1131), (1, .int x1), (2, .int x2)] [] s Q :=
  pl_wp_at (stops := [(20, [0, 1, 2]), (24, [0, 1, 2]), (53, [0, 1, 2]), (70, [0, 1, 2]), (88, [0, 1, 2]), (106, [0, 1, 2]), (134, [0, 1, 2]), (162, [0, 1, 2]), (181, [0, 1]), (205, [0]), (216, [0])]) (f := 11) h rfl


theorem pl_238_181 {n : Nat} {x1 : Int32} {s : ps_S} {Q : Option Value → ps_S → Prop} (h :
  pl_Cl n 208 [.ref 1131] s (ps_rI (fun v1 s1 =>
    (v1 ≠ 0 →
      pl_Cl n 217 [.ref 1131] s1 (ps_rI (fun v2 s2 =>
        (pm_in x1 40 = true →
          pl_At n 238 205 [(0, .ref 1131)] [] (ps_ua s2 1156 (Int32.toNatClampNeg x1) v2) Q)))) ∧
    (v1 = 0 →
      pl_Cl n 196 [.ref 1131] s1 (ps_rV (fun s3 =>
        pl_At n 238 205 [(0, .ref 1131)] [] s3 Q)))))) : pl_At (n + 1) 238 181 [(0, .ref 1131), (1, .int x1)] [] s Q :=
  pl_wp_at (stops := [(20, [0, 1, 2]), (24, [0, 1, 2]), (53, [0, 1, 2]), (70, [0, 1, 2]), (88, [0, 1, 2]), (106, [0, 1, 2]), (134, [0, 1, 2]), (162, [0, 1, 2]), (181, [0, 1]), (205, [0]), (216, [0])]) (f := 14) h rfl


theorem pl_238_205 {n : Nat} {s : ps_S} {Q : Option Value → ps_S → Prop} (h :
  pl_Cl n 192 [.ref 1131] s (ps_rI (fun v1 s1 =>
    (v1 = 0 →
      pl_At n 238 216 [(0, .ref 1131)] [] s1 Q) ∧
    (v1 ≠ 0 →
      pl_Cl n 194 [.ref 1131] s1 (ps_rV (fun s2 =>
        pl_At n 238 216 [(0, .ref 1131)] [] s2 Q)))))) : pl_At (n + 1) 238 205 [(0, .ref 1131)] [] s Q :=
  pl_wp_at (stops := [(20, [0, 1, 2]), (24, [0, 1, 2]), (53, [0, 1, 2]), (70, [0, 1, 2]), (88, [0, 1, 2]), (106, [0, 1, 2]), (134, [0, 1, 2]), (162, [0, 1, 2]), (181, [0, 1]), (205, [0]), (216, [0])]) (f := 7) h rfl


theorem pl_238_216 {n : Nat} {s : ps_S} {Q : Option Value → ps_S → Prop} (h :
  ((ps_i s 1131 9) ≠ 5 →
    pl_Cl n 197 [.ref 1131, .int 0] s (ps_rV (fun s1 =>
      Q none (ps_ui s1 1131 42 ((ps_i s1 1131 42) + 1))))) ∧
  ((ps_i s 1131 9) = 5 →
    pl_Cl n 197 [.ref 1131, .int 1] s (ps_rV (fun s2 =>
      Q none (ps_ui s2 1131 42 ((ps_i s2 1131 42) + 1)))))) : pl_At (n + 1) 238 216 [(0, .ref 1131)] [] s Q :=
  pl_wp_at (stops := [(20, [0, 1, 2]), (24, [0, 1, 2]), (53, [0, 1, 2]), (70, [0, 1, 2]), (88, [0, 1, 2]), (106, [0, 1, 2]), (134, [0, 1, 2]), (162, [0, 1, 2]), (181, [0, 1]), (205, [0]), (216, [0])]) (f := 26) h rfl

