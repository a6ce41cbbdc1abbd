set_option maxRecDepth 100000
-- ProofBenchModel.hasTerm(I)Z
theorem pl_235_0 {n : Nat} {x0 : Int32} {s : ps_S} {Q : Option Value → ps_S → Prop} (h :
  (x0 = 12 →
    Q (some (.int 1)) s) ∧
  (x0 ≠ 12 →
    (x0 = 13 →
      Q (some (.int 1)) s) ∧
    (x0 ≠ 13 →
      (x0 ≠ 15 →
        Q (some (.int 0)) s) ∧
      (x0 = 15 →
        Q (some (.int 1)) s)))) : pl_At (n + 1) 235 0 [(0, .int x0)] [] s Q :=
  pl_wp_at (stops := []) (f := 22) h rfl


-- ProofBenchModel.hasFormula(I)Z
theorem pl_236_0 {n : Nat} {x0 : Int32} {s : ps_S} {Q : Option Value → ps_S → Prop} (h :
  (x0 = 0 →
    Q (some (.int 1)) s) ∧
  (x0 ≠ 0 →
    (x0 = 6 →
      Q (some (.int 1)) s) ∧
    (x0 ≠ 6 →
      (x0 = 7 →
        Q (some (.int 1)) s) ∧
      (x0 ≠ 7 →
        (x0 = 10 →
          Q (some (.int 1)) s) ∧
        (x0 ≠ 10 →
          (x0 = 13 →
            Q (some (.int 1)) s) ∧
          (x0 ≠ 13 →
            (x0 < 16 →
              Q (some (.int 0)) s) ∧
            (16 ≤ x0 →
              Q (some (.int 1)) s))))))) : pl_At (n + 1) 236 0 [(0, .int x0)] [] s Q :=
  pl_wp_at (stops := []) (f := 39) h rfl


-- ProofBenchModel.anyNumber()I
theorem pl_237_0 {n : Nat} {s : ps_S} {Q : Option Value → ps_S → Prop} (h :
  pl_Cl n 192 [.ref 1131] s (ps_rI (fun v1 s1 =>
    (v1 ≠ 0 →
      ((ps_i s1 1131 9) ≠ 4 →
        pl_Cl n 197 [.ref 1131, .int 0] s1 (ps_rV (fun s2 =>
          Q (some (.int (ps_i s1 1131 10))) s2))) ∧
      ((ps_i s1 1131 9) = 4 →
        pl_Cl n 197 [.ref 1131, .int 1] s1 (ps_rV (fun s3 =>
          Q (some (.int (ps_i s1 1131 10))) s3)))) ∧
    (v1 = 0 →
      Q (some (.int 0)) s1)))) : pl_At (n + 1) 237 0 [(0, .ref 1131)] [] s Q :=
  pl_wp_at (stops := []) (f := 24) h rfl


-- ProofBenchModel.readStep()V
theorem pl_238_0 {n : Nat} {s : ps_S} {Q : Option Value → ps_S → Prop} (h :
  pl_Cl n 233 [.ref 1131] s (ps_rI (fun v1 s1 =>
    (v1 < 0 →
      pl_At n 238 20 [(0, .ref 1131), (1, .int (ps_i s 1131 42)), (2, .int v1)] [] s1 Q) ∧
    (0 ≤ v1 →
      ((ps_i s 1131 42) ≠ 40 →
        pl_At n 238 24 [(0, .ref 1131), (1, .int (ps_i s 1131 42)), (2, .int v1)] [] s1 Q) ∧
      ((ps_i s 1131 42) = 40 →
        pl_At n 238 20 [(0, .ref 1131), (1, .int (ps_i s 1131 42)), (2, .int v1)] [] s1 Q))))) : pl_At (n + 1) 238 0 [(0, .ref 1131)] [] s Q :=
  pl_wp_at (stops := [(20, [0, 1, 2]), (24, [0, 1, 2]), (53, [0, 1, 2]), (70, [0, 1, 2]), (88, [0, 1, 2]), (106, [0, 1, 2]), (134, [0, 1, 2]), (162, [0, 1, 2]), (181, [0, 1]), (205, [0]), (216, [0])]) (f := 13) h rfl


theorem pl_238_20 {n : Nat} {x1 : Int32} {x2 : Int32} {s : ps_S} {Q : Option Value → ps_S → Prop} (h :
  pl_Cl n 196 [.ref 1131] s (ps_rV (fun s1 =>
    pl_At n 238 24 [(0, .ref 1131), (1, .int x1), (2, .int x2)] [] s1 Q))) : pl_At (n + 1) 238 20 [(0, .ref 1131), (1, .int x1), (2, .int x2)] [] s Q :=
  pl_wp_at (stops := [(20, [0, 1, 2]), (24, [0, 1, 2]), (53, [0, 1, 2]), (70, [0, 1, 2]), (88, [0, 1, 2]), (106, [0, 1, 2]), (134, [0, 1, 2]), (162, [0, 1, 2]), (181, [0, 1]), (205, [0]), (216, [0])]) (f := 4) h rfl

