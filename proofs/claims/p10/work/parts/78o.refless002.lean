set_option maxRecDepth 100000
-- ProofBenchModel.takesLess(I)V
theorem pl_255_0 {n : Nat} {x1 : Int32} {s : ps_S} {Q : Option Value → ps_S → Prop} (h :
  pl_Cl n 244 [.ref 1131, .int x1] s (ps_rI (fun v1 s1 =>
    (pm_in x1 40 = true →
      ((ps_a s1 1152 (Int32.toNatClampNeg x1)) ≠ 8 →
        (pm_in x1 40 = true →
          ((ps_a s1 1152 (Int32.toNatClampNeg x1)) ≠ 9 →
            (pm_in x1 40 = true →
              ((ps_a s1 1152 (Int32.toNatClampNeg x1)) = 10 →
                pl_At n 255 165 [(0, .ref 1131), (1, .int x1), (2, .int v1), (3, .int ((22468 : Int32) + ((41 : Int32) * x1)))] [] s1 Q) ∧
              ((ps_a s1 1152 (Int32.toNatClampNeg x1)) ≠ 10 →
                pl_Cl n 247 [.ref 1131, .int v1] s1 (ps_rI (fun v2 s2 =>
                  (v2 = 0 →
                    pl_At n 255 165 [(0, .ref 1131), (1, .int x1), (2, .int v1), (3, .int ((22468 : Int32) + ((41 : Int32) * x1)))] [] s2 Q) ∧
                  (v2 ≠ 0 →
                    pl_Cl n 241 [.ref 1131, .int 2] s2 (ps_rV (fun s3 =>
                      pl_At n 255 165 [(0, .ref 1131), (1, .int x1), (2, .int v1), (3, .int ((22468 : Int32) + ((41 : Int32) * x1)))] [] s3 Q)))))))) ∧
          ((ps_a s1 1152 (Int32.toNatClampNeg x1)) = 9 →
            pl_Cl n 247 [.ref 1131, .int v1] s1 (ps_rI (fun v4 s4 =>
              (v4 ≠ 3 →
                pl_Cl n 226 [.ref 1131, .int v1, .int 1, .int 0] s4 (ps_rV (fun s5 =>
                  ((0 : Int32) = 0 →
                    pl_At n 255 89 [(0, .ref 1131), (1, .int x1), (2, .int v1), (4, .int 0)] [] s5 Q) ∧
                  ((0 : Int32) ≠ 0 →
                    pl_Cl n 245 [.ref 1131, .int x1] s5 (ps_rI (fun v6 s6 =>
                      pl_Cl n 230 [.ref 1131, .int v6] s6 (ps_rI (fun v7 s7 =>
                        (v7 ≠ 0 →
                          pl_At n 255 94 [(0, .ref 1131), (1, .int x1), (2, .int v1), (4, .int 0)] [] s7 Q) ∧
                        (v7 = 0 →
                          pl_At n 255 89 [(0, .ref 1131), (1, .int x1), (2, .int v1), (4, .int 0)] [] s7 Q))))))))) ∧
              (v4 = 3 →
                pl_Cl n 221 [.ref 1131, .int v1, .int 1] s4 (ps_rI (fun v8 s8 =>
                  pl_Cl n 226 [.ref 1131, .int v1, .int 1, .int v8] s8 (ps_rV (fun s9 =>
                    (v8 = 0 →
                      pl_At n 255 89 [(0, .ref 1131), (1, .int x1), (2, .int v1), (4, .int v8)] [] s9 Q) ∧
                    (v8 ≠ 0 →
                      pl_Cl n 245 [.ref 1131, .int x1] s9 (ps_rI (fun v10 s10 =>
                        pl_Cl n 230 [.ref 1131, .int v10] s10 (ps_rI (fun v11 s11 =>
                          (v11 ≠ 0 →
                            pl_At n 255 94 [(0, .ref 1131), (1, .int x1), (2, .int v1), (4, .int v8)] [] s11 Q) ∧
                          (v11 = 0 →
                            pl_At n 255 89 [(0, .ref 1131), (1, .int x1), (2, .int v1), (4, .int v8)] [] s11 Q)))))))))))))))) ∧
      ((ps_a s1 1152 (Int32.toNatClampNeg x1)) = 8 →
        pl_Cl n 256 [.ref 1131, .int x1] s1 (ps_rV (fun s12 =>
          Q none s12))))))) : pl_At (n + 1) 255 0 [(0, .ref 1131), (1, .int x1)] [] s Q :=
  pl_wp_at (stops := [(89, [0, 1, 2, 4]), (94, [0, 1, 2, 4]), (116, [0, 1]), (165, [0, 1, 2, 3]), (181, [0, 1, 2, 3]), (207, [0, 1, 2, 3]), (255, [0, 1, 2, 3])]) (f := 80) h rfl

