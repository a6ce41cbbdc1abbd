set_option maxRecDepth 100000
theorem pl_214_88 {n : Nat} {x1 : Int32} {x2 : Int32} {x3 : Int32} {x4 : Int32} {x5 : Int32} {s : ps_S} {Q : Option Value → ps_S → Prop} (h :
  pl_Cl n 192 [.ref 1131] s (ps_rI (fun v1 s1 =>
    (v1 ≠ 0 →
      pl_Cl n 210 [.ref 1131, .int x1, .int x2] (ps_ui s1 1131 31 ((ps_i s1 1131 31) + x5)) (ps_rV (fun s2 =>
        pl_Cl n 194 [.ref 1131] s2 (ps_rV (fun s3 =>
          (x4 = 0 →
            (x3 = 0 →
              (x2 ≠ 0 →
                (10 ≤ x2 →
                  (pm_in ((((6 : Int32) * (ps_i s3 1131 22)) + x2) - 10) 12 = true →
                    (x2 < 6 →
                      pl_Cl n 211 [.ref 1131, .int (ps_a s3 1138 (Int32.toNatClampNeg ((((6 : Int32) * (ps_i s3 1131 22)) + x2) - 10))), .int 0] s3 (ps_rV (fun s4 =>
                        (pm_in ((ps_i s4 1131 29) - 1) 16 = true →
                          Q none (ps_ua s4 1146 (Int32.toNatClampNeg ((ps_i s4 1131 29) - 1)) (x3 &&& 1)))))) ∧
                    (6 ≤ x2 →
                      pl_Cl n 211 [.ref 1131, .int (ps_a s3 1138 (Int32.toNatClampNeg ((((6 : Int32) * (ps_i s3 1131 22)) + x2) - 10))), .int 1] s3 (ps_rV (fun s5 =>
                        (pm_in ((ps_i s5 1131 29) - 1) 16 = true →
                          Q none (ps_ua s5 1146 (Int32.toNatClampNeg ((ps_i s5 1131 29) - 1)) (x3 &&& 1)))))))) ∧
                (x2 < 10 →
                  (x2 < 6 →
                    pl_Cl n 211 [.ref 1131, .int 2, .int 0] s3 (ps_rV (fun s6 =>
                      (pm_in ((ps_i s6 1131 29) - 1) 16 = true →
                        Q none (ps_ua s6 1146 (Int32.toNatClampNeg ((ps_i s6 1131 29) - 1)) (x3 &&& 1)))))) ∧
                  (6 ≤ x2 →
                    pl_Cl n 211 [.ref 1131, .int 2, .int 1] s3 (ps_rV (fun s7 =>
                      (pm_in ((ps_i s7 1131 29) - 1) 16 = true →
                        Q none (ps_ua s7 1146 (Int32.toNatClampNeg ((ps_i s7 1131 29) - 1)) (x3 &&& 1)))))))) ∧
              (x2 = 0 →
                (x2 < 6 →
                  pl_Cl n 211 [.ref 1131, .int 0, .int 0] s3 (ps_rV (fun s8 =>
                    (pm_in ((ps_i s8 1131 29) - 1) 16 = true →
                      Q none (ps_ua s8 1146 (Int32.toNatClampNeg ((ps_i s8 1131 29) - 1)) (x3 &&& 1)))))) ∧
                (6 ≤ x2 →
                  pl_Cl n 211 [.ref 1131, .int 0, .int 1] s3 (ps_rV (fun s9 =>
                    (pm_in ((ps_i s9 1131 29) - 1) 16 = true →
                      Q none (ps_ua s9 1146 (Int32.toNatClampNeg ((ps_i s9 1131 29) - 1)) (x3 &&& 1)))))))) ∧
            (x3 ≠ 0 →
              (x2 < 6 →
                pl_Cl n 211 [.ref 1131, .int 1, .int 0] s3 (ps_rV (fun s10 =>
                  (pm_in ((ps_i s10 1131 29) - 1) 16 = true →
                    Q none (ps_ua s10 1146 (Int32.toNatClampNeg ((ps_i s10 1131 29) - 1)) (x3 &&& 1)))))) ∧
              (6 ≤ x2 →
                pl_Cl n 211 [.ref 1131, .int 1, .int 1] s3 (ps_rV (fun s11 =>
                  (pm_in ((ps_i s11 1131 29) - 1) 16 = true →
                    Q none (ps_ua s11 1146 (Int32.toNatClampNeg ((ps_i s11 1131 29) - 1)) (x3 &&& 1)))))))) ∧
          (x4 ≠ 0 →
            pl_Cl n 208 [.ref 1131] s3 (ps_rI (fun v12 s12 =>
              (v12 ≠ 0 →
                pl_At n 214 133 [(0, .ref 1131)] [] s12 Q) ∧
              (v12 = 0 →
                pl_Cl n 196 [.ref 1131] s12 (ps_rV (fun s13 =>
                  pl_At n 214 133 [(0, .ref 1131)] [] s13 Q))))))))))) ∧
    (v1 = 0 →
      Q none s1)))) : pl_At (n + 1) 214 88 [(0, .ref 1131), (1, .int x1), (2, .int x2), (3, .int x3), (4, .int x4), (5, .int x5)] [] s Q :=
  pl_wp_at (stops := [(23, [0, 1, 2, 3]), (84, [0, 1, 2, 3, 4, 5]), (88, [0, 1, 2, 3, 4, 5]), (133, [0])]) (f := 154) h rfl

