set_option maxRecDepth 100000
-- ProofBenchModel.takesBound(I)V
theorem pl_257_0 {n : Nat} {x1 : Int32} {s : ps_S} {Q : Option Value → ps_S → Prop} (h :
  pl_Cl n 244 [.ref 1131, .int x1] s (ps_rI (fun v1 s1 =>
    (pm_in x1 40 = true →
      ((ps_a s1 1152 (Int32.toNatClampNeg x1)) = 11 →
        pl_At n 257 67 [(0, .ref 1131), (1, .int x1), (2, .int v1), (5, .int 0)] [] s1 Q) ∧
      ((ps_a s1 1152 (Int32.toNatClampNeg x1)) ≠ 11 →
        ((ps_a s1 1152 (Int32.toNatClampNeg x1)) = 12 →
        pl_Cl n 247 [.ref 1131, .int v1] s1 (ps_rI (fun v2 s2 =>
          (v2 = 4 →
            pl_Cl n 231 [.ref 1131, .int v1, .int ((24108 : Int32) + ((41 : Int32) * x1)), .int (-1)] s2 (ps_rV (fun s3 =>
              pl_At n 257 281 [(0, .ref 1131), (1, .int x1)] [] s3 Q))) ∧
          (v2 ≠ 4 →
            pl_Cl n 241 [.ref 1131, .int 2] s2 (ps_rV (fun s4 =>
              pl_At n 257 281 [(0, .ref 1131), (1, .int x1)] [] s4 Q)))))) ∧
      ((ps_a s1 1152 (Int32.toNatClampNeg x1)) ≠ 12 →
        ((ps_a s1 1152 (Int32.toNatClampNeg x1)) = 13 →
        pl_Cl n 247 [.ref 1131, .int ((22468 : Int32) + ((41 : Int32) * x1))] s1 (ps_rI (fun v5 s5 =>
          (v5 ≠ 5 →
            pl_At n 257 177 [(0, .ref 1131), (1, .int x1), (2, .int v1), (4, .int ((22468 : Int32) + ((41 : Int32) * x1)))] [] s5 Q) ∧
          (v5 = 5 →
            pl_Cl n 231 [.ref 1131, .int ((22468 : Int32) + ((41 : Int32) * x1)), .int ((24108 : Int32) + ((41 : Int32) * x1)), .int (-1)] s5 (ps_rV (fun s6 =>
              pl_At n 257 177 [(0, .ref 1131), (1, .int x1), (2, .int v1), (4, .int ((22468 : Int32) + ((41 : Int32) * x1)))] [] s6 Q)))))) ∧
      ((ps_a s1 1152 (Int32.toNatClampNeg x1)) ≠ 13 →
        ((ps_a s1 1152 (Int32.toNatClampNeg x1)) = 14 →
        pl_Cl n 258 [.ref 1131, .int x1] s1 (ps_rV (fun s7 =>
          Q none s7))) ∧
      ((ps_a s1 1152 (Int32.toNatClampNeg x1)) ≠ 14 →
        ((ps_a s1 1152 (Int32.toNatClampNeg x1)) = 15 →
        pl_Cl n 225 [.ref 1131, .int 6] s1 (ps_rV (fun s8 =>
          pl_Cl n 227 [.ref 1131, .int ((24108 : Int32) + ((41 : Int32) * x1))] s8 (ps_rV (fun s9 =>
            pl_Cl n 227 [.ref 1131, .int ((24108 : Int32) + ((41 : Int32) * x1))] s9 (ps_rV (fun s10 =>
              Q none s10))))))) ∧
      ((ps_a s1 1152 (Int32.toNatClampNeg x1)) ≠ 15 →
        pl_Cl n 247 [.ref 1131, .int v1] s1 (ps_rI (fun v11 s11 =>
        (v11 = 6 →
          pl_Cl n 245 [.ref 1131, .int x1] s11 (ps_rI (fun v12 s12 =>
            pl_Cl n 260 [.ref 1131, .int v1, .int v12, .int ((22468 : Int32) + ((41 : Int32) * x1))] s12 (ps_rI (fun v13 s13 =>
              (v13 ≠ 0 →
                pl_At n 257 275 [(0, .ref 1131), (1, .int x1), (4, .int ((22468 : Int32) + ((41 : Int32) * x1)))] [] s13 Q) ∧
              (v13 = 0 →
                pl_Cl n 241 [.ref 1131, .int 4] s13 (ps_rV (fun s14 =>
                  pl_At n 257 275 [(0, .ref 1131), (1, .int x1), (4, .int ((22468 : Int32) + ((41 : Int32) * x1)))] [] s14 Q)))))))) ∧
        (v11 ≠ 6 →
          pl_Cl n 241 [.ref 1131, .int 2] s11 (ps_rV (fun s15 =>
            pl_At n 257 275 [(0, .ref 1131), (1, .int x1), (4, .int ((22468 : Int32) + ((41 : Int32) * x1)))] [] s15 Q)))))))))))))) : pl_At (n + 1) 257 0 [(0, .ref 1131), (1, .int x1)] [] s Q :=
  pl_wp_at (stops := [(67, [0, 1, 2, 5]), (177, [0, 1, 2, 4]), (195, [0, 1, 4]), (200, [0, 1, 4]), (275, [0, 1, 4]), (281, [0, 1])]) (f := 84) h rfl

