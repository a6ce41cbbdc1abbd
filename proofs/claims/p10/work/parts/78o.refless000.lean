set_option maxRecDepth 100000
/-! the reference: case, apply, deduce, absurd, classic -/
-- ProofBenchModel.takesCase(I)V
theorem pl_256_0 {n : Nat} {x1 : Int32} {s : ps_S} {Q : Option Value → ps_S → Prop} (h :
  pl_Cl n 244 [.ref 1131, .int x1] s (ps_rI (fun v1 s1 =>
    pl_Cl n 247 [.ref 1131, .int v1] s1 (ps_rI (fun v2 s2 =>
      (v2 ≠ 2 →
        ((0 : Int32) = 0 →
          pl_At n 256 42 [(0, .ref 1131), (1, .int x1), (2, .int v1), (3, .int 0)] [] s2 Q) ∧
        ((0 : Int32) ≠ 0 →
          pl_Cl n 245 [.ref 1131, .int x1] s2 (ps_rI (fun v3 s3 =>
            pl_Cl n 246 [.ref 1131, .int x1] s3 (ps_rI (fun v4 s4 =>
              pl_Cl n 222 [.ref 1131, .int v3, .int v4] s4 (ps_rI (fun v5 s5 =>
                (v5 ≠ 0 →
                  pl_At n 256 47 [(0, .ref 1131), (1, .int x1), (2, .int v1), (3, .int 0)] [] s5 Q) ∧
                (v5 = 0 →
                  pl_At n 256 42 [(0, .ref 1131), (1, .int x1), (2, .int v1), (3, .int 0)] [] s5 Q))))))))) ∧
      (v2 = 2 →
        ((1 : Int32) = 0 →
          pl_At n 256 42 [(0, .ref 1131), (1, .int x1), (2, .int v1), (3, .int 1)] [] s2 Q) ∧
        ((1 : Int32) ≠ 0 →
          pl_Cl n 245 [.ref 1131, .int x1] s2 (ps_rI (fun v6 s6 =>
            pl_Cl n 246 [.ref 1131, .int x1] s6 (ps_rI (fun v7 s7 =>
              pl_Cl n 222 [.ref 1131, .int v6, .int v7] s7 (ps_rI (fun v8 s8 =>
                (v8 ≠ 0 →
                  pl_At n 256 47 [(0, .ref 1131), (1, .int x1), (2, .int v1), (3, .int 1)] [] s8 Q) ∧
                (v8 = 0 →
                  pl_At n 256 42 [(0, .ref 1131), (1, .int x1), (2, .int v1), (3, .int 1)] [] s8 Q)))))))))))))) : pl_At (n + 1) 256 0 [(0, .ref 1131), (1, .int x1)] [] s Q :=
  pl_wp_at (stops := [(42, [0, 1, 2, 3]), (47, [0, 1, 2, 3])]) (f := 38) h rfl

