set_option maxRecDepth 100000
-- ProofBenchModel.beginsFormula(I)V
theorem pl_214_0 {n : Nat} {x1 : Int32} {s : ps_S} {Q : Option Value → ps_S → Prop} (h :
  pl_Cl n 213 [.ref 1131] s (ps_rI (fun v1 s1 =>
    pl_Cl n 195 [.ref 1131, .long (7237492 : Int64)] s1 (ps_rI (fun v2 s2 =>
      (v1 = 4 →
        pl_At n 214 23 [(0, .ref 1131), (1, .int x1), (2, .int v1), (3, .int v2)] [] s2 Q) ∧
      (v1 ≠ 4 →
        (v1 ≠ 5 →
          (v2 = 0 →
            (v1 < 0 →
              pl_At n 214 84 [(0, .ref 1131), (1, .int x1), (2, .int v1), (3, .int v2), (4, .int 0), (5, .int 1)] [] s2 Q) ∧
            (0 ≤ v1 →
              (40 < ((ps_i s2 1131 31) + 1) →
                pl_At n 214 84 [(0, .ref 1131), (1, .int x1), (2, .int v1), (3, .int v2), (4, .int 0), (5, .int 1)] [] s2 Q) ∧
              (((ps_i s2 1131 31) + 1) ≤ 40 →
                (12 < (((ps_i s2 1131 29) + 1) - 1) →
                  pl_At n 214 84 [(0, .ref 1131), (1, .int x1), (2, .int v1), (3, .int v2), (4, .int 0), (5, .int 1)] [] s2 Q) ∧
                ((((ps_i s2 1131 29) + 1) - 1) ≤ 12 →
                  ((0 : Int32) = 0 →
                    pl_At n 214 88 [(0, .ref 1131), (1, .int x1), (2, .int v1), (3, .int v2), (4, .int 0), (5, .int 1)] [] s2 Q) ∧
                  ((0 : Int32) ≠ 0 →
                    ((ps_i s2 1131 30) ≤ 4 →
                      pl_At n 214 88 [(0, .ref 1131), (1, .int x1), (2, .int v1), (3, .int v2), (4, .int 0), (5, .int 1)] [] s2 Q) ∧
                    (4 < (ps_i s2 1131 30) →
                      pl_At n 214 84 [(0, .ref 1131), (1, .int x1), (2, .int v1), (3, .int v2), (4, .int 0), (5, .int 1)] [] s2 Q)))))) ∧
          (v2 ≠ 0 →
            (v1 < 0 →
              pl_At n 214 84 [(0, .ref 1131), (1, .int x1), (2, .int v1), (3, .int v2), (4, .int 0), (5, .int 2)] [] s2 Q) ∧
            (0 ≤ v1 →
              (40 < ((ps_i s2 1131 31) + 2) →
                pl_At n 214 84 [(0, .ref 1131), (1, .int x1), (2, .int v1), (3, .int v2), (4, .int 0), (5, .int 2)] [] s2 Q) ∧
              (((ps_i s2 1131 31) + 2) ≤ 40 →
                (12 < (((ps_i s2 1131 29) + 2) - 1) →
                  pl_At n 214 84 [(0, .ref 1131), (1, .int x1), (2, .int v1), (3, .int v2), (4, .int 0), (5, .int 2)] [] s2 Q) ∧
                ((((ps_i s2 1131 29) + 2) - 1) ≤ 12 →
                  ((0 : Int32) = 0 →
                    pl_At n 214 88 [(0, .ref 1131), (1, .int x1), (2, .int v1), (3, .int v2), (4, .int 0), (5, .int 2)] [] s2 Q) ∧
                  ((0 : Int32) ≠ 0 →
                    ((ps_i s2 1131 30) ≤ 4 →
                      pl_At n 214 88 [(0, .ref 1131), (1, .int x1), (2, .int v1), (3, .int v2), (4, .int 0), (5, .int 2)] [] s2 Q) ∧
                    (4 < (ps_i s2 1131 30) →
                      pl_At n 214 84 [(0, .ref 1131), (1, .int x1), (2, .int v1), (3, .int v2), (4, .int 0), (5, .int 2)] [] s2 Q))))))) ∧
        (v1 = 5 →
          pl_At n 214 23 [(0, .ref 1131), (1, .int x1), (2, .int v1), (3, .int v2)] [] s2 Q))))))) : pl_At (n + 1) 214 0 [(0, .ref 1131), (1, .int x1)] [] s Q :=
  pl_wp_at (stops := [(23, [0, 1, 2, 3]), (84, [0, 1, 2, 3, 4, 5]), (88, [0, 1, 2, 3, 4, 5]), (133, [0])]) (f := 68) h rfl

