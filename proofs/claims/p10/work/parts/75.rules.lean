set_option maxRecDepth 100000
/-! rules(): both sides -/
-- ProofBench.isBound(I)Z
theorem pl_185_0 {n : Nat} {x0 : Int32} {s : ps_S} {Q : Option Value → ps_S → Prop} (h :
  (x0 < 40 →
    Q (some (.int 0)) s) ∧
  (40 ≤ x0 →
    (60 ≤ x0 →
      Q (some (.int 0)) s) ∧
    (x0 < 60 →
      Q (some (.int 1)) s))) : pl_At (n + 1) 185 0 [(0, .int x0)] [] s Q :=
  pl_wp_at (stops := []) (f := 15) h rfl

-- ProofBench.isFun(I)Z
theorem pl_186_0 {n : Nat} {x0 : Int32} {s : ps_S} {Q : Option Value → ps_S → Prop} (h :
  (x0 < 20 →
    Q (some (.int 0)) s) ∧
  (20 ≤ x0 →
    (24 ≤ x0 →
      Q (some (.int 0)) s) ∧
    (x0 < 24 →
      Q (some (.int 1)) s))) : pl_At (n + 1) 186 0 [(0, .int x0)] [] s Q :=
  pl_wp_at (stops := []) (f := 15) h rfl

-- ProofBench$Rewriter.leftHasAll(LProofBench$Row;II)Z
theorem pl_84_0 {n : Nat} {r1 : Nat} {x2 : Int32} {x3 : Int32} {s : ps_S} {Q : Option Value → ps_S → Prop} (h :
  pl_At n 84 3 [(1, .ref r1), (2, .int x2), (3, .int x3), (4, .int x3)] [] s Q) : pl_At (n + 1) 84 0 [(0, .ref 1021), (1, .ref r1), (2, .int x2), (3, .int x3)] [] s Q :=
  pl_wp_at (stops := [(3, [1, 2, 3, 4]), (34, [1, 2, 3, 4, 5, 6]), (73, [1, 2, 3, 4, 5])]) (f := 4) h rfl

theorem pl_84_3 {n : Nat} {r1 : Nat} {x2 : Int32} {x3 : Int32} {x4 : Int32} {s : ps_S} {Q : Option Value → ps_S → Prop} (h :
  pl_nk (ps_is r1 5) (((ps_i s r1 1) ≤ x4 →
    Q (some (.int 1)) s) ∧
  (x4 < (ps_i s r1 1) →
    pl_Cl n 92 [.ref r1, .int x4] s (ps_rI (fun v1 s1 =>
      pl_Cl n 185 [.int v1] s1 (ps_rI (fun v2 s2 =>
        (v2 ≠ 0 →
          pl_At n 84 34 [(1, .ref r1), (2, .int x2), (3, .int x3), (4, .int x4), (5, .int 0), (6, .int x2)] [] s2 Q) ∧
        (v2 = 0 →
          pl_At n 84 34 [(1, .ref r1), (2, .int x2), (3, .int x3), (4, .int x4), (5, .int 1), (6, .int x2)] [] s2 Q)))))))) : pl_At (n + 1) 84 3 [(1, .ref r1), (2, .int x2), (3, .int x3), (4, .int x4)] [] s Q :=
  pl_wp_at (stops := [(3, [1, 2, 3, 4]), (34, [1, 2, 3, 4, 5, 6]), (73, [1, 2, 3, 4, 5])]) (f := 22) h rfl

theorem pl_84_34 {n : Nat} {r1 : Nat} {x2 : Int32} {x3 : Int32} {x4 : Int32} {x5 : Int32} {x6 : Int32} {s : ps_S} {Q : Option Value → ps_S → Prop} (h :
  (x3 ≤ x6 →
    pl_At n 84 73 [(1, .ref r1), (2, .int x2), (3, .int x3), (4, .int x4), (5, .int x5)] [] s Q) ∧
  (x6 < x3 →
    (x5 ≠ 0 →
      pl_At n 84 73 [(1, .ref r1), (2, .int x2), (3, .int x3), (4, .int x4), (5, .int x5)] [] s Q) ∧
    (x5 = 0 →
      pl_Cl n 92 [.ref r1, .int x6] s (ps_rI (fun v1 s1 =>
        pl_Cl n 92 [.ref r1, .int x4] s1 (ps_rI (fun v2 s2 =>
          (v1 ≠ v2 →
            pl_At n 84 34 [(1, .ref r1), (2, .int x2), (3, .int x3), (4, .int x4), (5, .int 0), (6, .int (x6 + 1))] [] s2 Q) ∧
          (v1 = v2 →
            pl_At n 84 34 [(1, .ref r1), (2, .int x2), (3, .int x3), (4, .int x4), (5, .int 1), (6, .int (x6 + 1))] [] s2 Q)))))))) : pl_At (n + 1) 84 34 [(1, .ref r1), (2, .int x2), (3, .int x3), (4, .int x4), (5, .int x5), (6, .int x6)] [] s Q :=
  pl_wp_at (stops := [(3, [1, 2, 3, 4]), (34, [1, 2, 3, 4, 5, 6]), (73, [1, 2, 3, 4, 5])]) (f := 23) h rfl

theorem pl_84_73 {n : Nat} {r1 : Nat} {x2 : Int32} {x3 : Int32} {x4 : Int32} {x5 : Int32} {s : ps_S} {Q : Option Value → ps_S → Prop} (h :
  (x5 ≠ 0 →
    pl_At n 84 3 [(1, .ref r1), (2, .int x2), (3, .int x3), (4, .int (x4 + 1))] [] s Q) ∧
  (x5 = 0 →
    Q (some (.int 0)) s)) : pl_At (n + 1) 84 73 [(1, .ref r1), (2, .int x2), (3, .int x3), (4, .int x4), (5, .int x5)] [] s Q :=
  pl_wp_at (stops := [(3, [1, 2, 3, 4]), (34, [1, 2, 3, 4, 5, 6]), (73, [1, 2, 3, 4, 5])]) (f := 8) h rfl

-- ProofBench$Rewriter.findRules(LProofBench$Theory;)V
theorem pl_83_0 {n : Nat} {r1 : Nat} {s : ps_S} {Q : Option Value → ps_S → Prop} (h :
  pl_At n 83 2 [(0, .ref 1021), (1, .ref r1), (2, .int 0)] [] s Q) : pl_At (n + 1) 83 0 [(0, .ref 1021), (1, .ref r1)] [] s Q :=
  pl_wp_at (stops := [(2, [0, 1, 2]), (19, [0, 1, 2, 3, 4]), (44, [0, 1, 2, 3, 4]), (109, [0, 1, 2, 5, 6])]) (f := 4) h rfl

theorem pl_83_2 {n : Nat} {r1 : Nat} {x2 : Int32} {s : ps_S} {Q : Option Value → ps_S → Prop} (h :
  pl_nk (ps_is r1 9) (((ps_i s r1 8) ≤ x2 →
    Q none s) ∧
  (x2 < (ps_i s r1 8) →
    pl_Cl n 135 [.ref r1, .int x2] s (ps_rA (fun v1 s1 =>
      pl_At n 83 19 [(0, .ref 1021), (1, .ref r1), (2, .int x2), (3, .ref v1), (4, .int 0)] [] s1 Q))))) : pl_At (n + 1) 83 2 [(0, .ref 1021), (1, .ref r1), (2, .int x2)] [] s Q :=
  pl_wp_at (stops := [(2, [0, 1, 2]), (19, [0, 1, 2, 3, 4]), (44, [0, 1, 2, 3, 4]), (109, [0, 1, 2, 5, 6])]) (f := 13) h rfl

theorem pl_83_19 {n : Nat} {r1 : Nat} {x2 : Int32} {r3 : Nat} {x4 : Int32} {s : ps_S} {Q : Option Value → ps_S → Prop} (h :
  pl_nk (ps_is r3 5) (((ps_i s r3 1) ≤ x4 →
    pl_At n 83 44 [(0, .ref 1021), (1, .ref r1), (2, .int x2), (3, .ref r3), (4, .int x4)] [] s Q) ∧
  (x4 < (ps_i s r3 1) →
    pl_Cl n 92 [.ref r3, .int x4] s (ps_rI (fun v1 s1 =>
      (v1 ≠ 4 →
        pl_At n 83 44 [(0, .ref 1021), (1, .ref r1), (2, .int x2), (3, .ref r3), (4, .int x4)] [] s1 Q) ∧
      (v1 = 4 →
        pl_At n 83 19 [(0, .ref 1021), (1, .ref r1), (2, .int x2), (3, .ref r3), (4, .int (x4 + 1))] [] s1 Q)))))) : pl_At (n + 1) 83 19 [(0, .ref 1021), (1, .ref r1), (2, .int x2), (3, .ref r3), (4, .int x4)] [] s Q :=
  pl_wp_at (stops := [(2, [0, 1, 2]), (19, [0, 1, 2, 3, 4]), (44, [0, 1, 2, 3, 4]), (109, [0, 1, 2, 5, 6])]) (f := 13) h rfl

theorem pl_83_44 {n : Nat} {r1 : Nat} {x2 : Int32} {r3 : Nat} {x4 : Int32} {s : ps_S} {Q : Option Value → ps_S → Prop} (h :
  pl_Cl n 103 [.ref 1030, .ref r3, .ref r1] s (ps_rV (fun s1 =>
    pl_Cl n 104 [.ref 1030, .int (x4 + 1)] s1 (ps_rI (fun v2 s2 =>
      pl_Cl n 92 [.ref r3, .int x4] s2 (ps_rI (fun v3 s3 =>
        (v3 ≠ 6 →
          pl_At n 83 109 [(0, .ref 1021), (1, .ref r1), (2, .int x2), (5, .int (x4 + 1)), (6, .int v2)] [] s3 Q) ∧
        (v3 = 6 →
          pl_Cl n 92 [.ref r3, .int (x4 + 1)] s3 (ps_rI (fun v4 s4 =>
            pl_Cl n 186 [.int v4] s4 (ps_rI (fun v5 s5 =>
              (v5 = 0 →
                pl_At n 83 109 [(0, .ref 1021), (1, .ref r1), (2, .int x2), (5, .int (x4 + 1)), (6, .int v2)] [] s5 Q) ∧
              (v5 ≠ 0 →
                pl_Cl n 84 [.ref 1021, .ref r3, .int (x4 + 1), .int v2] s5 (ps_rI (fun v6 s6 =>
                  (v6 = 0 →
                    pl_At n 83 109 [(0, .ref 1021), (1, .ref r1), (2, .int x2), (5, .int (x4 + 1)), (6, .int v2)] [] s6 Q) ∧
                  (v6 ≠ 0 →
                    pl_Cl n 183 [.ref 1036, .int x2, .int (x4 + 1)] s6 (ps_rV (fun s7 =>
                      ((1 : Int32) = 0 →
                        pl_Cl n 183 [.ref 1037, .int x2, .int (-1)] s7 (ps_rV (fun s8 =>
                          pl_At n 83 2 [(0, .ref 1021), (1, .ref r1), (2, .int (x2 + 1))] [] s8 Q))) ∧
                      ((1 : Int32) ≠ 0 →
                        pl_Cl n 183 [.ref 1037, .int x2, .int v2] s7 (ps_rV (fun s9 =>
                          pl_At n 83 2 [(0, .ref 1021), (1, .ref r1), (2, .int (x2 + 1))] [] s9 Q))))))))))))))))))))) : pl_At (n + 1) 83 44 [(0, .ref 1021), (1, .ref r1), (2, .int x2), (3, .ref r3), (4, .int x4)] [] s Q :=
  pl_wp_at (stops := [(2, [0, 1, 2]), (19, [0, 1, 2, 3, 4]), (44, [0, 1, 2, 3, 4]), (109, [0, 1, 2, 5, 6])]) (f := 54) h rfl

theorem pl_83_109 {n : Nat} {r1 : Nat} {x2 : Int32} {x5 : Int32} {x6 : Int32} {s : ps_S} {Q : Option Value → ps_S → Prop} (h :
  pl_Cl n 183 [.ref 1036, .int x2, .int x5] s (ps_rV (fun s1 =>
    ((0 : Int32) = 0 →
      pl_Cl n 183 [.ref 1037, .int x2, .int (-1)] s1 (ps_rV (fun s2 =>
        pl_At n 83 2 [(0, .ref 1021), (1, .ref r1), (2, .int (x2 + 1))] [] s2 Q))) ∧
    ((0 : Int32) ≠ 0 →
      pl_Cl n 183 [.ref 1037, .int x2, .int x6] s1 (ps_rV (fun s3 =>
        pl_At n 83 2 [(0, .ref 1021), (1, .ref r1), (2, .int (x2 + 1))] [] s3 Q)))))) : pl_At (n + 1) 83 109 [(0, .ref 1021), (1, .ref r1), (2, .int x2), (5, .int x5), (6, .int x6)] [] s Q :=
  pl_wp_at (stops := [(2, [0, 1, 2]), (19, [0, 1, 2, 3, 4]), (44, [0, 1, 2, 3, 4]), (109, [0, 1, 2, 5, 6])]) (f := 23) h rfl

-- ProofBench$Rewriter.ruleBits(LProofBench$Theory;)I
theorem pl_82_0 {n : Nat} {r1 : Nat} {s : ps_S} {Q : Option Value → ps_S → Prop} (h :
  pl_Cl n 83 [.ref 1021, .ref r1] s (ps_rV (fun s1 =>
    pl_At n 82 9 [(0, .ref 1021), (1, .ref r1), (2, .int 0), (3, .int 0)] [] s1 Q))) : pl_At (n + 1) 82 0 [(0, .ref 1021), (1, .ref r1)] [] s Q :=
  pl_wp_at (stops := [(9, [0, 1, 2, 3])]) (f := 9) h rfl

theorem pl_82_9 {n : Nat} {r1 : Nat} {x2 : Int32} {x3 : Int32} {s : ps_S} {Q : Option Value → ps_S → Prop} (h :
  pl_nk (ps_is r1 9) (((ps_i s r1 8) ≤ x3 →
    Q (some (.int x2)) s) ∧
  (x3 < (ps_i s r1 8) →
    pl_Cl n 182 [.ref 1037, .int x3] s (ps_rI (fun v1 s1 =>
      (v1 = (-1) →
        pl_At n 82 9 [(0, .ref 1021), (1, .ref r1), (2, .int x2), (3, .int (x3 + 1))] [] s1 Q) ∧
      (v1 ≠ (-1) →
        pl_At n 82 9 [(0, .ref 1021), (1, .ref r1), (2, .int (x2 ||| ((1 : Int32) <<< (x3 &&& 31)))), (3, .int (x3 + 1))] [] s1 Q)))))) : pl_At (n + 1) 82 9 [(0, .ref 1021), (1, .ref r1), (2, .int x2), (3, .int x3)] [] s Q :=
  pl_wp_at (stops := [(9, [0, 1, 2, 3])]) (f := 24) h rfl

-- ProofBench.rules()I
theorem pl_171_0 {n : Nat} {s : ps_S} {Q : Option Value → ps_S → Prop} (h :
  pl_Cl n 82 [.ref 1021, .ref (ps_r s 0 2)] s (ps_rI (fun v1 s1 =>
    Q (some (.int v1)) s1))) : pl_At (n + 1) 171 0 [(0, .ref 0)] [] s Q :=
  pl_wp_at (stops := []) (f := 8) h rfl

-- ProofBenchModel.axiomRow(II)I
theorem pl_283_0 {n : Nat} {x0 : Int32} {x1 : Int32} {s : ps_S} {Q : Option Value → ps_S → Prop} (h :
  Q (some (.int ((21812 : Int32) + ((41 : Int32) * (((8 : Int32) * x0) + x1))))) s) : pl_At (n + 1) 283 0 [(0, .int x0), (1, .int x1)] [] s Q :=
  pl_wp_at (stops := []) (f := 12) h rfl

-- ProofBenchModel.isRule(I)Z
theorem pl_284_0 {n : Nat} {x1 : Int32} {s : ps_S} {Q : Option Value → ps_S → Prop} (h :
  pl_Cl n 283 [.int (ps_i s 1131 21), .int x1] s (ps_rI (fun v1 s1 =>
    pl_At n 284 11 [(0, .ref 1131), (2, .int v1), (3, .int 0)] [] s1 Q))) : pl_At (n + 1) 284 0 [(0, .ref 1131), (1, .int x1)] [] s Q :=
  pl_wp_at (stops := [(11, [0, 2, 3]), (91, [0, 2, 4]), (126, [0, 2, 4, 5, 6]), (170, [0, 2, 4, 5])]) (f := 9) h rfl

theorem pl_284_11 {n : Nat} {x2 : Int32} {x3 : Int32} {s : ps_S} {Q : Option Value → ps_S → Prop} (h :
  pl_Cl n 220 [.ref 1131, .int x2, .int x3] s (ps_rI (fun v1 s1 =>
    (v1 ≠ 4 →
      pl_Cl n 220 [.ref 1131, .int x2, .int x3] s1 (ps_rI (fun v2 s2 =>
        (v2 ≠ 6 →
          Q (some (.int 0)) s2) ∧
        (v2 = 6 →
          pl_Cl n 220 [.ref 1131, .int x2, .int (x3 + 1)] s2 (ps_rI (fun v3 s3 =>
            (v3 < 20 →
              Q (some (.int 0)) s3) ∧
            (20 ≤ v3 →
              pl_Cl n 220 [.ref 1131, .int x2, .int (x3 + 1)] s3 (ps_rI (fun v4 s4 =>
                (v4 < 40 →
                  pl_Cl n 221 [.ref 1131, .int x2, .int (x3 + 1)] (ps_ui s4 1131 63 (x3 + 1)) (ps_rI (fun v5 s5 =>
                    pl_At n 284 91 [(0, .ref 1131), (2, .int x2), (4, .int (ps_i (ps_ui s5 1131 64 v5) 1131 64))] [] (ps_ui s5 1131 64 v5) Q))) ∧
                (40 ≤ v4 →
                  Q (some (.int 0)) s4)))))))))) ∧
    (v1 = 4 →
      pl_At n 284 11 [(0, .ref 1131), (2, .int x2), (3, .int (x3 + 1))] [] s1 Q)))) : pl_At (n + 1) 284 11 [(0, .ref 1131), (2, .int x2), (3, .int x3)] [] s Q :=
  pl_wp_at (stops := [(11, [0, 2, 3]), (91, [0, 2, 4]), (126, [0, 2, 4, 5, 6]), (170, [0, 2, 4, 5])]) (f := 54) h rfl

theorem pl_284_91 {n : Nat} {x2 : Int32} {x4 : Int32} {s : ps_S} {Q : Option Value → ps_S → Prop} (h :
  pl_Cl n 219 [.ref 1131, .int x2] s (ps_rI (fun v1 s1 =>
    (v1 ≤ x4 →
      Q (some (.int 1)) s1) ∧
    (x4 < v1 →
      pl_Cl n 220 [.ref 1131, .int x2, .int x4] s1 (ps_rI (fun v2 s2 =>
        (40 ≤ v2 →
          pl_At n 284 126 [(0, .ref 1131), (2, .int x2), (4, .int x4), (5, .int 0), (6, .int (ps_i s2 1131 63))] [] s2 Q) ∧
        (v2 < 40 →
          pl_At n 284 126 [(0, .ref 1131), (2, .int x2), (4, .int x4), (5, .int 1), (6, .int (ps_i s2 1131 63))] [] s2 Q))))))) : pl_At (n + 1) 284 91 [(0, .ref 1131), (2, .int x2), (4, .int x4)] [] s Q :=
  pl_wp_at (stops := [(11, [0, 2, 3]), (91, [0, 2, 4]), (126, [0, 2, 4, 5, 6]), (170, [0, 2, 4, 5])]) (f := 26) h rfl

theorem pl_284_126 {n : Nat} {x2 : Int32} {x4 : Int32} {x5 : Int32} {x6 : Int32} {s : ps_S} {Q : Option Value → ps_S → Prop} (h :
  ((ps_i s 1131 64) ≤ x6 →
    pl_At n 284 170 [(0, .ref 1131), (2, .int x2), (4, .int x4), (5, .int x5)] [] s Q) ∧
  (x6 < (ps_i s 1131 64) →
    (x5 ≠ 0 →
      pl_At n 284 170 [(0, .ref 1131), (2, .int x2), (4, .int x4), (5, .int x5)] [] s Q) ∧
    (x5 = 0 →
      pl_Cl n 220 [.ref 1131, .int x2, .int x6] s (ps_rI (fun v1 s1 =>
        pl_Cl n 220 [.ref 1131, .int x2, .int x4] s1 (ps_rI (fun v2 s2 =>
          (v1 ≠ v2 →
            pl_At n 284 126 [(0, .ref 1131), (2, .int x2), (4, .int x4), (5, .int 0), (6, .int (x6 + 1))] [] s2 Q) ∧
          (v1 = v2 →
            pl_At n 284 126 [(0, .ref 1131), (2, .int x2), (4, .int x4), (5, .int 1), (6, .int (x6 + 1))] [] s2 Q)))))))) : pl_At (n + 1) 284 126 [(0, .ref 1131), (2, .int x2), (4, .int x4), (5, .int x5), (6, .int x6)] [] s Q :=
  pl_wp_at (stops := [(11, [0, 2, 3]), (91, [0, 2, 4]), (126, [0, 2, 4, 5, 6]), (170, [0, 2, 4, 5])]) (f := 26) h rfl

theorem pl_284_170 {n : Nat} {x2 : Int32} {x4 : Int32} {x5 : Int32} {s : ps_S} {Q : Option Value → ps_S → Prop} (h :
  (x5 ≠ 0 →
    pl_At n 284 91 [(0, .ref 1131), (2, .int x2), (4, .int (x4 + 1))] [] s Q) ∧
  (x5 = 0 →
    Q (some (.int 0)) s)) : pl_At (n + 1) 284 170 [(0, .ref 1131), (2, .int x2), (4, .int x4), (5, .int x5)] [] s Q :=
  pl_wp_at (stops := [(11, [0, 2, 3]), (91, [0, 2, 4]), (126, [0, 2, 4, 5, 6]), (170, [0, 2, 4, 5])]) (f := 8) h rfl

-- ProofBenchModel.rules()I
theorem pl_285_0 {n : Nat} {s : ps_S} {Q : Option Value → ps_S → Prop} (h :
  pl_At n 285 4 [(0, .ref 1131), (1, .int 0), (2, .int 0)] [] s Q) : pl_At (n + 1) 285 0 [(0, .ref 1131)] [] s Q :=
  pl_wp_at (stops := [(4, [0, 1, 2])]) (f := 6) h rfl

theorem pl_285_4 {n : Nat} {x1 : Int32} {x2 : Int32} {s : ps_S} {Q : Option Value → ps_S → Prop} (h :
  (pm_in (ps_i s 1131 21) 2 = true →
    ((ps_a s 1137 (Int32.toNatClampNeg (ps_i s 1131 21))) ≤ x2 →
      Q (some (.int x1)) s) ∧
    (x2 < (ps_a s 1137 (Int32.toNatClampNeg (ps_i s 1131 21))) →
      pl_Cl n 284 [.ref 1131, .int x2] s (ps_rI (fun v1 s1 =>
        (v1 = 0 →
          pl_At n 285 4 [(0, .ref 1131), (1, .int (x1 ||| 0)), (2, .int (x2 + 1))] [] s1 Q) ∧
        (v1 ≠ 0 →
          pl_At n 285 4 [(0, .ref 1131), (1, .int (x1 ||| ((1 : Int32) <<< (x2 &&& 31)))), (2, .int (x2 + 1))] [] s1 Q)))))) : pl_At (n + 1) 285 4 [(0, .ref 1131), (1, .int x1), (2, .int x2)] [] s Q :=
  pl_wp_at (stops := [(4, [0, 1, 2])]) (f := 29) h rfl

/-- how many alls an axiom begins with -/
def rl_n : List Nat → Nat
  | [] => 0
  | c :: l => if c = 4 then rl_n l + 1 else 0
theorem rl_n_c {l : List Nat} : rl_n (4 :: l) = rl_n l + 1 := rfl
theorem rl_n_is : ∀ {l : List Nat} {j : Nat}, (∀ i, i < j → l[i]? = some 4) → l[j]? ≠ some 4 → rl_n l = j
  | [], 0, _, _ => rfl
  | [], j + 1, h, _ => by have := h 0 (by omega); cases this
  | c :: l, 0, _, h => by
    show (if c = 4 then _ else _) = 0
    rw [if_neg (fun z => h (by rw [z]; rfl))]
  | c :: l, j + 1, h, h' => by
    have h0 := h 0 (by omega)
    rw [List.getElem?_cons_zero] at h0
    cases h0
    rw [rl_n_c, rl_n_is (j := j) (fun i hi => by have := h (i + 1) (by omega); rw [List.getElem?_cons_succ] at this; exact this) (by rw [List.getElem?_cons_succ] at h'; exact h')]
theorem rl_n_ws {σ : mSig} : ∀ {l : List Nat} {b : Bool} {W : List Bool}, ws σ l (b :: W) → (∀ i, i < rl_n l → l[i]? = some 4) ∧ rl_n l < l.length ∧ l[rl_n l]? ≠ some 4 ∧ ∃ b' W', ws σ (l.drop (rl_n l)) (b' :: W')
  | [], b, W, h => by cases h
  | c :: l, b, W, h => by
    by_cases hc : c = 4
    · subst hc
      have h' := h
      obtain ⟨b', W', ks, e, hk, h2⟩ := ws_cons.mp h
      have hks : ∃ b2 ks', ks = b2 :: ks' := by
        rcases kS_cases hk with z | z | z | z | z | z | z
        · omega
        · omega
        · exact ⟨true, [], z.2.2⟩
        · omega
        · omega
        · omega
        · omega
      obtain ⟨b2, ks', rfl⟩ := hks
      obtain ⟨g1, g2, g3, g4⟩ := rl_n_ws (b := b2) h2
      rw [rl_n_c]
      refine ⟨fun i hi => ?_, by rw [List.length_cons]; omega, by rw [List.getElem?_cons_succ]; exact g3, by rw [List.drop_succ_cons]; exact g4⟩
      cases i with
      | zero => rfl
      | succ i =>
        rw [List.getElem?_cons_succ]
        exact g1 i (by omega)
    · have e : rl_n (c :: l) = 0 := by
        show (if c = 4 then _ else _) = 0
        rw [if_neg hc]
      rw [e]
      refine ⟨fun i hi => absurd hi (Nat.not_lt_zero _), by rw [List.length_cons]; omega, ?_, b, W, by rw [List.drop_zero]; exact h⟩
      rw [List.getElem?_cons_zero]
      exact fun z => hc (Option.some.inj z)
def rl_l (l : List Nat) : Nat := rl_n l + 1
def rl_r (ar : Nat → Nat) (l : List Nat) : Nat := rl_l l + en ar (l.drop (rl_l l)) 1
def rl_h (ar : Nat → Nat) (l : List Nat) : Prop := ∀ x, x ∈ l.drop (rl_r ar l) → 40 ≤ x → x ∈ (l.drop (rl_l l)).take (rl_r ar l - rl_l l)
/-- an axiom that is a rule -/
def rl_is (ar : Nat → Nat) (l : List Nat) : Prop := l[rl_n l]? = some 6 ∧ (∃ c, l[rl_l l]? = some c ∧ 20 ≤ c ∧ c < 40) ∧ rl_h ar l
theorem sl_mem {l : List Nat} {a b c : Nat} : c ∈ (l.drop a).take (b - a) ↔ ∃ q, a ≤ q ∧ q < b ∧ l[q]? = some c := by
  constructor
  · intro h
    obtain ⟨k, hk⟩ := List.mem_iff_getElem?.mp h
    rw [List.getElem?_take] at hk
    split at hk
    · next z =>
      rw [List.getElem?_drop] at hk
      exact ⟨a + k, by omega, by omega, hk⟩
    · cases hk
  · rintro ⟨q, h1, h2, h3⟩
    refine List.mem_iff_getElem?.mpr ⟨q - a, ?_⟩
    rw [List.getElem?_take, if_pos (by omega), List.getElem?_drop, show a + (q - a) = q from by omega]
    exact h3
theorem fs_185 {n : Nat} {x0 : Int32} {s : ps_S} {R : Int32 → ps_S → Prop} (k1 : 40 ≤ x0.toInt ∧ x0.toInt < 60 → R 1 s) (k0 : ¬ (40 ≤ x0.toInt ∧ x0.toInt < 60) → R 0 s) : pl_Cl n 185 [.int x0] s (ps_rI R) := by
  cases n with
  | zero => exact pl_At_0
  | succ n =>
  show pl_At (n + 1) 185 0 [(0, .int x0)] [] s (ps_rI R)
  refine pl_185_0 ?_
  refine ⟨fun h3 => ?_, fun h3 => ?_⟩
  · have h3 : x0.toInt < (40 : Int) := xlt h3
    exact k0 (by omega)
  · have h3 : (40 : Int) ≤ x0.toInt := xle h3
    refine ⟨fun h9 => ?_, fun h9 => ?_⟩
    · have h9 : (60 : Int) ≤ x0.toInt := xle h9
      exact k0 (by omega)
    · have h9 : x0.toInt < (60 : Int) := xlt h9
      exact k1 (by omega)
theorem fs_186 {n : Nat} {x0 : Int32} {s : ps_S} {R : Int32 → ps_S → Prop} (k1 : 20 ≤ x0.toInt ∧ x0.toInt < 24 → R 1 s) (k0 : ¬ (20 ≤ x0.toInt ∧ x0.toInt < 24) → R 0 s) : pl_Cl n 186 [.int x0] s (ps_rI R) := by
  cases n with
  | zero => exact pl_At_0
  | succ n =>
  show pl_At (n + 1) 186 0 [(0, .int x0)] [] s (ps_rI R)
  refine pl_186_0 ?_
  refine ⟨fun h3 => ?_, fun h3 => ?_⟩
  · have h3 : x0.toInt < (20 : Int) := xlt h3
    exact k0 (by omega)
  · have h3 : (20 : Int) ≤ x0.toInt := xle h3
    refine ⟨fun h9 => ?_, fun h9 => ?_⟩
    · have h9 : (24 : Int) ≤ x0.toInt := xle h9
      exact k0 (by omega)
    · have h9 : x0.toInt < (24 : Int) := xlt h9
      exact k1 (by omega)
theorem fs_104o {n r i : Nat} {x1 : Int32} {s : ps_S} {R : Int32 → ps_S → Prop} (hr : ps_is r 6 = true) (hx : x1.toInt = i) (k : ∀ v : Int32, (i < 40 → v = ps_a s (r + 1) i) → R v s) : pl_Cl n 104 [.ref r, .int x1] s (ps_rI R) := by
  cases n with
  | zero => exact pl_At_0
  | succ n =>
  show pl_At (n + 1) 104 0 [(0, .ref r), (1, .int x1)] [] s (ps_rI R)
  obtain ⟨⟨e0, e1, e2⟩, ⟨l0, l1, l2⟩, -⟩ := shr hr
  have t40 : (nI (ps_ln (r + 1))).toInt = 40 := by rw [l0]; decide
  refine pl_104_0 ?_
  rw [e0]
  refine ⟨fun h => ?_, fun h => ?_⟩
  · have h := xlt h
    have c0 : (0 : Int32).toInt = 0 := by decide
    omega
  · refine pl_nk_i (fun _ => pl_nk_i (fun _ => ⟨fun h2 => ?_, fun h2 => ?_⟩))
    · have h2 := xle h2
      exact k _ (fun z => by omega)
    · refine pl_nk_i (fun _ => pl_nk_i (fun _ => ?_))
      intro b
      rw [xtn hx]
      exact k _ (fun _ => rfl)
section R84
variable {r lf rt : Nat} {l : List Nat} {x2 x3 : Int32} {s : ps_S} {R : Int32 → ps_S → Prop}
theorem fs_84_34 {n0 i c : Nat} {x4 : Int32} (hr : ps_is r 5 = true) (W : cv_W s r l) (h2 : x2.toInt = lf) (h3 : x3.toInt = rt) (hrt : rt ≤ l.length) (h4 : x4.toInt = i) (hc : l[i]? = some c) (k3 : (40 ≤ c → c ∈ (l.drop lf).take (rt - lf)) → pl_At n0 84 3 [(1, .ref r), (2, .int x2), (3, .int x3), (4, .int (x4 + 1))] [] s (ps_rI R)) (k0 : ¬ (40 ≤ c → c ∈ (l.drop lf).take (rt - lf)) → R 0 s) : ∀ (n : Nat) {x5 x6 : Int32} {j : Nat}, n ≤ n0 → x6.toInt = j → lf ≤ j → (x5 ≠ 0 → 40 ≤ c → c ∈ (l.drop lf).take (rt - lf)) → (x5 = 0 → 40 ≤ c ∧ ∀ q, lf ≤ q → q < j → l[q]? ≠ some c) → pl_At n 84 34 [(1, .ref r), (2, .int x2), (3, .int x3), (4, .int x4), (5, .int x5), (6, .int x6)] [] s (ps_rI R)
  | 0, _, _, _, _, _, _, _, _ => pl_At_0
  | n + 1, x5, x6, j, hn, h6, hj, y1, y0 => by
    have h40 := W.2.2.1
    have e73 : (x5 = 0 → rt ≤ j) → pl_At n 84 73 [(1, .ref r), (2, .int x2), (3, .int x3), (4, .int x4), (5, .int x5)] [] s (ps_rI R) := fun hz => by
      cases n with
      | zero => exact pl_At_0
      | succ n =>
      refine pl_84_73 ⟨fun z => (k3 (y1 z)).le (by omega), fun z => k0 (fun w => ?_)⟩
      obtain ⟨g1, g2⟩ := y0 z
      obtain ⟨q, q1, q2, q3⟩ := sl_mem.mp (w g1)
      exact g2 q q1 (by have := hz z; omega) q3
    refine pl_84_34 ⟨fun h => ?_, fun h => ⟨fun h5 => ?_, fun h5 => ?_⟩⟩
    · have h := xle h
      exact e73 (fun _ => by omega)
    · exact e73 (fun z => absurd z h5)
    · have h := xlt h
      obtain ⟨c2, hc2⟩ : ∃ c2, l[j]? = some c2 := ⟨_, List.getElem?_eq_getElem (by omega)⟩
      obtain ⟨g1, g2⟩ := y0 h5
      refine fs_92c hr W h6 hc2 (fun v q => ?_)
      refine fs_92c hr W h4 hc (fun v' q' => ⟨fun z => ?_, fun z => ?_⟩)
      · have z := xne z
        refine fs_84_34 hr W h2 h3 hrt h4 hc k3 k0 n (by omega) (xj1 h6 (by omega)) (by omega) (fun w => absurd rfl w) (fun _ => ⟨g1, fun q q1 q2 q3 => ?_⟩)
        rcases Nat.lt_or_ge q j with y | y
        · exact g2 q q1 y q3
        · rw [show q = j from by omega, hc2] at q3
          cases q3
          omega
      · have z := xeq z
        exact fs_84_34 hr W h2 h3 hrt h4 hc k3 k0 n (by omega) (xj1 h6 (by omega)) (by omega) (fun _ _ => (sl_mem (b := rt)).mpr ⟨j, hj, by omega, by rw [hc2, show c2 = c from by omega]⟩) (fun w => absurd w (by decide))
theorem fs_84_3 (hr : ps_is r 5 = true) (W : cv_W s r l) (h2 : x2.toInt = lf) (h3 : x3.toInt = rt) (hrt : rt ≤ l.length) (h60 : ∀ x, x ∈ l → x < 60) (k1 : (∀ x, x ∈ l.drop rt → 40 ≤ x → x ∈ (l.drop lf).take (rt - lf)) → R 1 s) (k0 : ¬ (∀ x, x ∈ l.drop rt → 40 ≤ x → x ∈ (l.drop lf).take (rt - lf)) → R 0 s) : ∀ (n : Nat) {x4 : Int32} {i : Nat}, x4.toInt = i → rt ≤ i → (∀ q c, rt ≤ q → q < i → l[q]? = some c → 40 ≤ c → c ∈ (l.drop lf).take (rt - lf)) → pl_At n 84 3 [(1, .ref r), (2, .int x2), (3, .int x3), (4, .int x4)] [] s (ps_rI R)
  | 0, _, _, _, _, _ => pl_At_0
  | n + 1, x4, i, h4, hi, hq => by
    have hsz := W.1
    have h40 := W.2.2.1
    refine pl_84_3 (pl_nk_i (fun _ => ⟨fun h => ?_, fun h => ?_⟩))
    · have h := xle h
      refine k1 (fun x hx hx40 => ?_)
      obtain ⟨k, hk⟩ := List.mem_iff_getElem?.mp hx
      rw [List.getElem?_drop] at hk
      have hkl := (List.getElem?_eq_some_iff.mp hk).1
      exact hq (rt + k) x (by omega) (by omega) hk hx40
    · have h := xlt h
      obtain ⟨c, hc⟩ : ∃ c, l[i]? = some c := ⟨_, List.getElem?_eq_getElem (by omega)⟩
      have hc60 := h60 c (List.mem_of_getElem? hc)
      have g3 : (40 ≤ c → c ∈ (l.drop lf).take (rt - lf)) → pl_At n 84 3 [(1, .ref r), (2, .int x2), (3, .int x3), (4, .int (x4 + 1))] [] s (ps_rI R) := fun w => by
        refine fs_84_3 hr W h2 h3 hrt h60 k1 k0 n (xj1 h4 (by omega)) (by omega) (fun q c2 q1 q2 q3 q4 => ?_)
        rcases Nat.lt_or_ge q i with y | y
        · exact hq q c2 q1 y q3 q4
        · rw [show q = i from by omega, hc] at q3
          cases q3
          exact w q4
      have g0 : ¬ (40 ≤ c → c ∈ (l.drop lf).take (rt - lf)) → R 0 s := fun w => k0 (fun y => w (fun z => y c (List.mem_iff_getElem?.mpr ⟨i - rt, by rw [List.getElem?_drop, show rt + (i - rt) = i from by omega]; exact hc⟩) z))
      refine fs_92c hr W h4 hc (fun v q => ?_)
      refine fs_185 (fun z => ⟨fun _ => ?_, fun y => absurd y (by decide)⟩) (fun z => ⟨fun y => absurd rfl y, fun _ => ?_⟩)
      · exact fs_84_34 hr W h2 h3 hrt h4 hc g3 g0 n (Nat.le_refl _) h2 (Nat.le_refl _) (fun w => absurd rfl w) (fun _ => ⟨by omega, fun q a b => absurd a (by omega)⟩)
      · exact fs_84_34 hr W h2 h3 hrt h4 hc g3 g0 n (Nat.le_refl _) h2 (Nat.le_refl _) (fun _ w => absurd w (by omega)) (fun w => absurd w (by decide))
theorem fs_84 {n : Nat} (hr : ps_is r 5 = true) (W : cv_W s r l) (h2 : x2.toInt = lf) (h3 : x3.toInt = rt) (hrt : rt ≤ l.length) (h60 : ∀ x, x ∈ l → x < 60) (k1 : (∀ x, x ∈ l.drop rt → 40 ≤ x → x ∈ (l.drop lf).take (rt - lf)) → R 1 s) (k0 : ¬ (∀ x, x ∈ l.drop rt → 40 ≤ x → x ∈ (l.drop lf).take (rt - lf)) → R 0 s) : pl_Cl n 84 [.ref 1021, .ref r, .int x2, .int x3] s (ps_rI R) := by
  cases n with
  | zero => exact pl_At_0
  | succ n =>
  show pl_At (n + 1) 84 0 [(0, .ref 1021), (1, .ref r), (2, .int x2), (3, .int x3)] [] s (ps_rI R)
  exact pl_84_0 (fs_84_3 hr W h2 h3 hrt h60 k1 k0 n h3 (Nat.le_refl _) (fun q c a b => absurd a (by omega)))
end R84
/-- the class's rules of the first m axioms -/
def RLc (s : ps_S) (ar : Nat → Nat) (ax : List (List Nat × List Nat)) (m : Nat) : Prop := ∀ (k : Nat) (w l : List Nat), k < m → ax[k]? = some (w, l) → (rl_is ar l → (ps_a s 1036 k).toInt = rl_l l ∧ (ps_a s 1037 k).toInt = rl_r ar l) ∧ (¬ rl_is ar l → (ps_a s 1037 k).toInt = -1)
def RLq (q : Nat) : Prop := (1030 ≤ q ∧ q ≤ 1033) ∨ q = 1036 ∨ q = 1037
theorem ps_is5 {r : Nat} (h : ps_K r = (1, 5, 0)) : ps_is r 5 = true := by
  unfold ps_is
  rw [h]
  rfl
theorem RLc_put {s : ps_S} {ar : Nat → Nat} {ax : List (List Nat × List Nat)} {i : Nat} {w l : List Nat} {x5 x6 : Int32} (h : RLc s ar ax i) (hi : ax[i]? = some (w, l)) (h1 : rl_is ar l → x5.toInt = rl_l l ∧ x6.toInt = rl_r ar l) (h0 : ¬ rl_is ar l → x6.toInt = -1) : RLc (ps_ua (ps_ua s 1036 i x5) 1037 i x6) ar ax (i + 1) := fun k w2 l2 hk hk2 => by
  rcases Nat.lt_or_ge k i with z | z
  · rw [ps_a_ua, if_neg (by omega), ps_a_ua, if_neg (by omega), ps_a_ua, if_neg (by omega)]
    exact h k w2 l2 z hk2
  · have e : k = i := by omega
    subst e
    rw [hi] at hk2
    cases hk2
    rw [ps_a_ua, if_neg (by omega), ps_a_ua, if_pos ⟨rfl, rfl⟩, ps_a_ua, if_pos ⟨rfl, rfl⟩]
    exact ⟨h1, h0⟩
section R83
variable {th : Nat} {h : tx_H} {s0 : ps_S} {R : ps_S → Prop}
theorem fs_83_19 {n0 i r : Nat} {l : List Nat} {x2 : Int32} {s : ps_S} (hr : ps_is r 5 = true) (W : cv_W s r l) (kk : ∀ v4 : Int32, v4.toInt = rl_n l → pl_At n0 83 44 [(0, .ref 1021), (1, .ref th), (2, .int x2), (3, .ref r), (4, .int v4)] [] s (ps_rV R)) : ∀ (n : Nat) {x4 : Int32} {j : Nat}, n ≤ n0 → x4.toInt = j → j ≤ l.length → (∀ i, i < j → l[i]? = some 4) → pl_At n 83 19 [(0, .ref 1021), (1, .ref th), (2, .int x2), (3, .ref r), (4, .int x4)] [] s (ps_rV R)
  | 0, _, _, _, _, _, _ => pl_At_0
  | n + 1, x4, j, hn, h4, hj, ha => by
    have hsz := W.1
    have h40 := W.2.2.1
    have c4 : (4 : Int32).toInt = 4 := by decide
    refine pl_83_19 (pl_nk_i (fun _ => ⟨fun z => ?_, fun z => ?_⟩))
    · have z := xle z
      refine (kk x4 ?_).le (by omega)
      rw [rl_n_is ha (by rw [List.getElem?_eq_none (by omega)]; exact fun y => by cases y)]
      exact h4
    · have z := xlt z
      obtain ⟨c, hc⟩ : ∃ c, l[j]? = some c := ⟨_, List.getElem?_eq_getElem (by omega)⟩
      refine fs_92c hr W h4 hc (fun v q => ⟨fun y => ?_, fun y => ?_⟩)
      · have y := xne y
        refine (kk x4 ?_).le (by omega)
        rw [rl_n_is ha (by rw [hc]; exact fun y2 => by have := Option.some.inj y2; omega)]
        exact h4
      · have y := xeq y
        refine fs_83_19 (i := i) hr W kk n (by omega) (xj1 h4 (by omega)) (by omega) (fun i hi => ?_)
        rcases Nat.lt_or_ge i j with w | w
        · exact ha i w
        · rw [show i = j from by omega, hc, show c = 4 from by omega]
theorem fs_83_2 (hth : th = 2 ∨ th = 26) (H0 : cv_H s0 th h) (hw : WFt h) (k : ∀ s', RLc s' (arh h.1) h.2 h.2.length → cfr RLq s0 s' → R s') : ∀ (n : Nat) {s : ps_S} {x2 : Int32} {i : Nat}, x2.toInt = i → i ≤ h.2.length → RLc s (arh h.1) h.2 i → cfr RLq s0 s → pl_At n 83 2 [(0, .ref 1021), (1, .ref th), (2, .int x2)] [] s (ps_rV R)
  | 0, _, _, _, _, _, _, _ => pl_At_0
  | n + 1, s, x2, i, h2, hi, hR, F => by
    have h8 := H0.2.2.1
    have H := cv_H_cfr H0 F (fun q a b => by unfold RLq; omega)
    have esz := H.2.1
    refine pl_83_2 (pl_nk_i (fun _ => ⟨fun z => ?_, fun z => ?_⟩))
    · have z := xle z
      have e : i = h.2.length := by omega
      subst e
      exact k s hR F
    · have z := xlt z
      obtain ⟨⟨w, l⟩, hk⟩ : ∃ p, h.2[i]? = some p := ⟨_, List.getElem?_eq_getElem (by omega)⟩
      obtain ⟨y1, y2, W⟩ := H.2.2.2 i w l hk
      obtain ⟨hf, hl40, h60⟩ := hw.2.2 i w l hk
      have Kk := th_K hth (k := i) (by omega)
      have hr : ps_is (th + 8 + 2 * i) 5 = true := ps_is5 Kk.2.2.2.2.2.1
      have hws := wf_ws hf
      obtain ⟨n1, n2, n3, b', W', n4⟩ := rl_n_ws (b := true) (W := []) hws
      have hA := arh_k H.1.2.2.1 H.1.2.2.2.1
      have c0 : (0 : Int32).toInt = 0 := by decide
      have c6 : (6 : Int32).toInt = 6 := by decide
      refine fs_135 hth h2 (by omega) ?_
      refine fs_83_19 (th := th) (i := i) hr W (fun v4 e4 => ?_) n (j := 0) (Nat.le_refl _) rfl (Nat.zero_le _) (fun i hi => absurd hi (Nat.not_lt_zero _))
      cases n with
      | zero => exact pl_At_0
      | succ n =>
      refine pl_83_44 ?_
      refine fs_103 (r := 1030) (r1 := th + 8 + 2 * i) (l := l) rfl hr hth ⟨by omega, by omega⟩ (wf_ws hf) (Or.inl rfl) W H.1 (fun s1 Z F1 => ?_)
      have F1' : cfr RLq s s1 := cfr_mono F1 (fun q z => by unfold CSh at z; unfold RLq; omega)
      have W1 := cv_W_cfr W F1' (by unfold RLq; omega) (by unfold RLq; omega)
      have R1 : RLc s1 (arh h.1) h.2 i := fun k w2 l2 hk1 hk2 => by
        rw [(F1 1036 (by unfold CSh; omega)).2.2.2.1, (F1 1037 (by unfold CSh; omega)).2.2.2.1]
        exact hR k w2 l2 hk1 hk2
      have e41 : (v4 + 1).toInt = (rl_l l : Nat) := xj1 e4 (by omega)
      have put : ∀ (x6 : Int32), (rl_is (arh h.1) l → x6.toInt = rl_r (arh h.1) l) → (¬ rl_is (arh h.1) l → x6.toInt = -1) → pl_At n 83 2 [(0, .ref 1021), (1, .ref th), (2, .int (x2 + 1))] [] (ps_ua (ps_ua s1 1036 i (v4 + 1)) 1037 i x6) (ps_rV R) := fun x6 p1 p0 =>
        fs_83_2 hth H0 hw k n (xj1 h2 (by omega)) (by omega) (RLc_put R1 hk (fun z => ⟨e41, p1 z⟩) p0) (cfr_a (cfr_a (cfr_tr F F1') (Or.inr (Or.inl rfl))) (Or.inr (Or.inr rfl)))
      have no : ¬ rl_is (arh h.1) l → ∀ v2 : Int32, pl_At n 83 109 [(0, .ref 1021), (1, .ref th), (2, .int x2), (5, .int (v4 + 1)), (6, .int v2)] [] s1 (ps_rV R) := fun hn v2 => by
        cases n with
        | zero => exact pl_At_0
        | succ n =>
        refine pl_83_109 ?_
        refine fs_183 (a := i) h2 (show i < 8 from by omega) (by decide) ⟨fun _ => ?_, fun z => absurd rfl z⟩
        refine fs_183 (a := i) h2 (show i < 8 from by omega) (by decide) ?_
        exact (put (-1) (fun z => absurd z hn) (fun _ => by decide)).le (Nat.le_succ _)
      obtain ⟨c, hc⟩ : ∃ c, l[rl_n l]? = some c := ⟨_, List.getElem?_eq_getElem n2⟩
      refine fs_104o (r := 1030) rfl e41 (fun v2 q2 => ?_)
      refine fs_92c hr W1 e4 hc (fun v3 q3 => ⟨fun z => ?_, fun z => ?_⟩)
      · have z := xne z
        exact no (fun y => by have y1 := y.1; rw [hc] at y1; have := Option.some.inj y1; omega) v2
      · have z := xeq z
        have hc6 : c = 6 := by omega
        subst hc6
        rw [drop_c hc] at n4
        obtain ⟨ks, hks, hw2⟩ := ws_hd n4
        have hks2 : ks = [false, false] := by
          rcases kS_cases hks with z | z | z | z | z | z | z
          · omega
          · omega
          · omega
          · exact z.2.2
          · omega
          · omega
          · omega
        subst hks2
        have hlt := en_lt hA (k := 0) hw2 (by simp)
        rw [en_0, List.length_drop] at hlt
        obtain ⟨c2, hc2⟩ : ∃ c2, l[rl_l l]? = some c2 := ⟨_, List.getElem?_eq_getElem (by unfold rl_l; omega)⟩
        have hcl := (List.getElem?_eq_some_iff.mp hc2).1
        have hle := en_le hA (k := 1) hw2 (by simp)
        rw [List.length_drop] at hle
        have er : v2.toInt = (rl_r (arh h.1) l : Nat) := by
          rw [q2 (by omega), Z.1 (rl_l l) (Nat.zero_le _) hcl]
          rfl
        have hrle : rl_r (arh h.1) l ≤ l.length := by unfold rl_r rl_l; omega
        refine fs_92c hr W1 e41 hc2 (fun v4' q4 => ?_)
        refine fs_186 (fun y => ⟨fun w => absurd w (by decide), fun _ => ?_⟩) (fun y => ⟨fun _ => no (fun w => ?_) v2, fun w => absurd rfl w⟩)
        · refine fs_84 hr W1 e41 er hrle h60 (fun w => ⟨fun w2 => absurd w2 (by decide), fun _ => ?_⟩) (fun w => ⟨fun _ => no (fun w3 => w w3.2.2) v2, fun w3 => absurd rfl w3⟩)
          have his : rl_is (arh h.1) l := ⟨hc, ⟨c2, hc2, by omega, by omega⟩, w⟩
          refine fs_183 (a := i) h2 (show i < 8 from by omega) (by decide) ⟨fun w2 => absurd w2 (by decide), fun _ => ?_⟩
          refine fs_183 (a := i) h2 (show i < 8 from by omega) (by decide) ?_
          exact put v2 (fun _ => er) (fun z => absurd his z)
        · obtain ⟨-, ⟨c3, hc3, g1, g2⟩, -⟩ := w
          rw [hc2] at hc3
          cases hc3
          have hk2 := hw2
          have hd2 : l.drop (rl_n l + 1) = c2 :: l.drop (rl_n l + 1 + 1) := drop_c hc2
          rw [hd2] at hk2
          obtain ⟨ks2, hks2, -⟩ := ws_hd hk2
          have g24 := H.1.2.2.2.1
          rcases kS_num hks2 with ⟨a, e⟩ | ⟨a, a2, e⟩ | ⟨a, e⟩ | ⟨a, e⟩ | ⟨a, a2, e⟩ | ⟨a, a2, e⟩ | ⟨a, a2, e⟩
          · omega
          · omega
          · omega
          · omega
          · have a2 : c2 < 10 + h.1.1.length := a2
            have := H.1.2.2.1
            omega
          · have a2 : c2 < 20 + h.1.2.length := a2
            omega
          · omega
theorem fs_83 {n : Nat} (hth : th = 2 ∨ th = 26) (H0 : cv_H s0 th h) (hw : WFt h) (k : ∀ s', RLc s' (arh h.1) h.2 h.2.length → cfr RLq s0 s' → R s') : pl_Cl n 83 [.ref 1021, .ref th] s0 (ps_rV R) := by
  cases n with
  | zero => exact pl_At_0
  | succ n =>
  show pl_At (n + 1) 83 0 [(0, .ref 1021), (1, .ref th)] [] s0 (ps_rV R)
  exact pl_83_0 (fs_83_2 hth H0 hw k n (i := 0) rfl (Nat.zero_le _) (fun k w l hk => absurd hk (Nat.not_lt_zero _)) cfr_refl)
end R83
/-- bits of those of the first k that are so -/
noncomputable def rl_b (P : Nat → Prop) : Nat → Int32
  | 0 => 0
  | k + 1 => @ite Int32 (P k) (Classical.propDecidable _) (rl_b P k ||| ((1 : Int32) <<< (nI k &&& 31))) (rl_b P k)
theorem rl_b_1 {P : Nat → Prop} {k : Nat} (h : P k) : rl_b P (k + 1) = rl_b P k ||| ((1 : Int32) <<< (nI k &&& 31)) := by
  show @ite Int32 (P k) (Classical.propDecidable _) _ _ = _
  rw [if_pos h]
theorem rl_b_0 {P : Nat → Prop} {k : Nat} (h : ¬ P k) : rl_b P (k + 1) = rl_b P k := by
  show @ite Int32 (P k) (Classical.propDecidable _) _ _ = _
  rw [if_neg h]
def rl_P (h : tx_H) (k : Nat) : Prop := ∃ w l, h.2[k]? = some (w, l) ∧ rl_is (arh h.1) l
def rl_A (h : tx_H) (v : Int32) : Prop := v = rl_b (rl_P h) h.2.length
theorem rl_A_eq {h : tx_H} {v v' : Int32} (a : rl_A h v) (b : rl_A h v') : v = v' := a.trans b.symm
theorem fs_82_9 {th : Nat} {h : tx_H} {s : ps_S} (hth : th = 2 ∨ th = 26) (H : cv_H s th h) (hR : RLc s (arh h.1) h.2 h.2.length) : ∀ (n : Nat) {x2 x3 : Int32} {i : Nat}, x3.toInt = i → i ≤ h.2.length → x2 = rl_b (rl_P h) i → pl_At n 82 9 [(0, .ref 1021), (1, .ref th), (2, .int x2), (3, .int x3)] [] s (ps_rI (fun v _ => rl_A h v))
  | 0, _, _, _, _, _, _ => pl_At_0
  | n + 1, x2, x3, i, h3, hi, h2 => by
    have h8 := H.2.2.1
    have esz := H.2.1
    refine pl_82_9 (pl_nk_i (fun _ => ⟨fun z => ?_, fun z => ?_⟩))
    · have z := xle z
      have e : i = h.2.length := by omega
      subst e
      exact h2
    · have z := xlt z
      obtain ⟨⟨w, l⟩, hk⟩ : ∃ p, h.2[i]? = some p := ⟨_, List.getElem?_eq_getElem (by omega)⟩
      obtain ⟨r1, r0⟩ := hR i w l (by omega) hk
      refine fs_182 (a := i) h3 (show i < 8 from by omega) (by decide) ⟨fun y => ?_, fun y => ?_⟩
      · have y := xeq y
        have cm : (-1 : Int32).toInt = -1 := by decide
        refine fs_82_9 hth H hR n (xj1 h3 (by omega)) (by omega) ?_
        rw [rl_b_0 (fun q => ?_), h2]
        obtain ⟨w2, l2, hk2, q⟩ := q
        rw [hk] at hk2
        cases hk2
        have := (r1 q).2
        omega
      · have y := xne y
        have cm : (-1 : Int32).toInt = -1 := by decide
        refine fs_82_9 hth H hR n (xj1 h3 (by omega)) (by omega) ?_
        have hP : rl_P h i := by
          by_cases q : rl_is (arh h.1) l
          · exact ⟨w, l, hk, q⟩
          · exact absurd (r0 q) (by omega)
        rw [rl_b_1 hP, h2, xnI h3]
theorem fs_171 {n : Nat} {s : ps_S} {h : tx_H} {l : List Nat} (c : TRc s h l) (hw : WFt h) : pl_Cl n 171 [.ref 0] s (ps_rI (fun v _ => rl_A h v)) := by
  cases n with
  | zero => exact pl_At_0
  | succ n =>
  show pl_At (n + 1) 171 0 [(0, .ref 0)] [] s _
  have hth : ps_r s 0 2 = 2 ∨ ps_r s 0 2 = 26 := by have := c.2.1; omega
  refine pl_171_0 ?_
  cases n with
  | zero => exact pl_At_0
  | succ n =>
  show pl_At (n + 1) 82 0 [(0, .ref 1021), (1, .ref (ps_r s 0 2))] [] s _
  refine pl_82_0 ?_
  refine fs_83 hth c.1 hw (fun s1 hR F => ?_)
  have h8 := c.1.2.2.1
  exact pl_At.mono (fs_82_9 hth (cv_H_cfr c.1 F (fun q a b => by unfold RLq; omega)) hR n (i := 0) rfl (Nat.zero_le _) rfl) (fun o s2 z => rI_mono z (fun v y => y))
/-! the reference -/
theorem fm_283 {n b k : Nat} {x0 x1 : Int32} {s : ps_S} {R : Int32 → ps_S → Prop} (h0 : x0.toInt = b) (hb : b < 2) (h1 : x1.toInt = k) (hk : k < 8) (kk : ∀ v : Int32, v.toInt = (21812 + 41 * (8 * b + k) : Nat) → R v s) : pl_Cl n 283 [.int x0, .int x1] s (ps_rI R) := by
  cases n with
  | zero => exact pl_At_0
  | succ n =>
  show pl_At (n + 1) 283 0 [(0, .int x0), (1, .int x1)] [] s (ps_rI R)
  refine pl_283_0 (kk _ ?_)
  have c8 : (8 : Int32).toInt = 8 := by decide
  have c41 : (41 : Int32).toInt = 41 := by decide
  have cb : (21812 : Int32).toInt = 21812 := by decide
  have e1 : ((8 : Int32) * x0).toInt = 8 * b := by rw [xIm (by rw [c8, h0]; omega) (by rw [c8, h0]; omega), c8, h0]
  have e2 : (((8 : Int32) * x0) + x1).toInt = 8 * b + k := by rw [xIa (by omega) (by omega), e1, h1]
  have e3 : ((41 : Int32) * (((8 : Int32) * x0) + x1)).toInt = 41 * (8 * b + k) := by rw [xIm (by rw [c41, e2]; omega) (by rw [c41, e2]; omega), c41, e2]
  rw [xIa (by omega) (by omega), e3, cb]
  omega
section R284
variable {to : Nat} {ar : Nat → Nat} {l : List Nat} {x2 : Int32} {s : ps_S} {R : Int32 → ps_S → Prop}
theorem fm_284_126 {n0 i c : Nat} {x4 : Int32} (h2 : x2.toInt = to) (hto : to < 27400) (W : mv_W s to l) (h63 : (ps_i s 1131 63).toInt = (rl_l l : Nat)) (h64 : (ps_i s 1131 64).toInt = (rl_r ar l : Nat)) (hrt : rl_r ar l ≤ l.length) (h4 : x4.toInt = i) (hc : l[i]? = some c) (k3 : (40 ≤ c → c ∈ (l.drop (rl_l l)).take (rl_r ar l - rl_l l)) → pl_At n0 284 91 [(0, .ref 1131), (2, .int x2), (4, .int (x4 + 1))] [] s (ps_rI R)) (k0 : ¬ (40 ≤ c → c ∈ (l.drop (rl_l l)).take (rl_r ar l - rl_l l)) → R 0 s) : ∀ (n : Nat) {x5 x6 : Int32} {j : Nat}, n ≤ n0 → x6.toInt = j → rl_l l ≤ j → (x5 ≠ 0 → 40 ≤ c → c ∈ (l.drop (rl_l l)).take (rl_r ar l - rl_l l)) → (x5 = 0 → 40 ≤ c ∧ ∀ q, rl_l l ≤ q → q < j → l[q]? ≠ some c) → pl_At n 284 126 [(0, .ref 1131), (2, .int x2), (4, .int x4), (5, .int x5), (6, .int x6)] [] s (ps_rI R)
  | 0, _, _, _, _, _, _, _, _ => pl_At_0
  | n + 1, x5, x6, j, hn, h6, hj, y1, y0 => by
    have h40 := W.2.1
    have e73 : (x5 = 0 → rl_r ar l ≤ j) → pl_At n 284 170 [(0, .ref 1131), (2, .int x2), (4, .int x4), (5, .int x5)] [] s (ps_rI R) := fun hz => by
      cases n with
      | zero => exact pl_At_0
      | succ n =>
      refine pl_284_170 ⟨fun z => (k3 (y1 z)).le (by omega), fun z => k0 (fun w => ?_)⟩
      obtain ⟨g1, g2⟩ := y0 z
      obtain ⟨q, q1, q2, q3⟩ := sl_mem.mp (w g1)
      exact g2 q q1 (by have := hz z; omega) q3
    refine pl_284_126 ⟨fun h => ?_, fun h => ⟨fun h5 => ?_, fun h5 => ?_⟩⟩
    · have h := xle h
      exact e73 (fun _ => by omega)
    · exact e73 (fun z => absurd z h5)
    · have h := xlt h
      obtain ⟨c2, hc2⟩ : ∃ c2, l[j]? = some c2 := ⟨_, List.getElem?_eq_getElem (by omega)⟩
      obtain ⟨g1, g2⟩ := y0 h5
      refine fm_220c h2 hto W h6 hc2 (fun v q => ?_)
      refine fm_220c h2 hto W h4 hc (fun v' q' => ⟨fun z => ?_, fun z => ?_⟩)
      · have z := xne z
        refine fm_284_126 h2 hto W h63 h64 hrt h4 hc k3 k0 n (by omega) (xj1 h6 (by omega)) (by omega) (fun w => absurd rfl w) (fun _ => ⟨g1, fun q q1 q2 q3 => ?_⟩)
        rcases Nat.lt_or_ge q j with y | y
        · exact g2 q q1 y q3
        · rw [show q = j from by omega, hc2] at q3
          cases q3
          omega
      · have z := xeq z
        exact fm_284_126 h2 hto W h63 h64 hrt h4 hc k3 k0 n (by omega) (xj1 h6 (by omega)) (by omega) (fun _ _ => sl_mem.mpr ⟨j, hj, by omega, by rw [hc2, show c2 = c from by omega]⟩) (fun w => absurd w (by decide))
theorem fm_284_91 (h2 : x2.toInt = to) (hto : to < 27400) (W : mv_W s to l) (h63 : (ps_i s 1131 63).toInt = (rl_l l : Nat)) (h64 : (ps_i s 1131 64).toInt = (rl_r ar l : Nat)) (hrt : rl_r ar l ≤ l.length) (k1 : rl_h ar l → R 1 s) (k0 : ¬ rl_h ar l → R 0 s) : ∀ (n : Nat) {x4 : Int32} {i : Nat}, x4.toInt = i → rl_r ar l ≤ i → (∀ q c, rl_r ar l ≤ q → q < i → l[q]? = some c → 40 ≤ c → c ∈ (l.drop (rl_l l)).take (rl_r ar l - rl_l l)) → pl_At n 284 91 [(0, .ref 1131), (2, .int x2), (4, .int x4)] [] s (ps_rI R)
  | 0, _, _, _, _, _ => pl_At_0
  | n + 1, x4, i, h4, hi, hq => by
    have h40 := W.2.1
    have c40 : (40 : Int32).toInt = 40 := by decide
    refine pl_284_91 ?_
    refine fm_219c h2 W (fun v1 q1 => ⟨fun h => ?_, fun h => ?_⟩)
    · have h := xle h
      refine k1 (fun x hx hx40 => ?_)
      obtain ⟨k, hk⟩ := List.mem_iff_getElem?.mp hx
      rw [List.getElem?_drop] at hk
      have hkl := (List.getElem?_eq_some_iff.mp hk).1
      exact hq (rl_r ar l + k) x (by omega) (by omega) hk hx40
    · have h := xlt h
      obtain ⟨c, hc⟩ : ∃ c, l[i]? = some c := ⟨_, List.getElem?_eq_getElem (by omega)⟩
      have g3 : (40 ≤ c → c ∈ (l.drop (rl_l l)).take (rl_r ar l - rl_l l)) → pl_At n 284 91 [(0, .ref 1131), (2, .int x2), (4, .int (x4 + 1))] [] s (ps_rI R) := fun w => by
        refine fm_284_91 h2 hto W h63 h64 hrt k1 k0 n (xj1 h4 (by omega)) (by omega) (fun q c2 q1 q2 q3 q4 => ?_)
        rcases Nat.lt_or_ge q i with y | y
        · exact hq q c2 q1 y q3 q4
        · rw [show q = i from by omega, hc] at q3
          cases q3
          exact w q4
      have g0 : ¬ (40 ≤ c → c ∈ (l.drop (rl_l l)).take (rl_r ar l - rl_l l)) → R 0 s := fun w => k0 (fun y => w (fun z => y c (List.mem_iff_getElem?.mpr ⟨i - rl_r ar l, by rw [List.getElem?_drop, show rl_r ar l + (i - rl_r ar l) = i from by omega]; exact hc⟩) z))
      refine fm_220c h2 hto W h4 hc (fun v q => ⟨fun z => ?_, fun z => ?_⟩)
      · have z := xle z
        exact fm_284_126 h2 hto W h63 h64 hrt h4 hc g3 g0 n (Nat.le_refl _) h63 (Nat.le_refl _) (fun w => absurd rfl w) (fun _ => ⟨by omega, fun q a b => absurd a (by omega)⟩)
      · have z := xlt z
        exact fm_284_126 h2 hto W h63 h64 hrt h4 hc g3 g0 n (Nat.le_refl _) h63 (Nat.le_refl _) (fun _ w => absurd w (by omega)) (fun w => absurd w (by decide))
end R284
theorem fm_284 {n b i : Nat} {h : tx_H} {w l : List Nat} {x1 : Int32} {s : ps_S} {R : Int32 → ps_S → Prop} (hb : b < 2) (h21 : (ps_i s 1131 21).toInt = b) (H : mv_H s b h) (hw : WFt h) (hi : h.2[i]? = some (w, l)) (hx : x1.toInt = i) (k1 : ∀ s', rl_is (arh h.1) l ∧ (ps_i s' 1131 63).toInt = (rl_l l : Nat) ∧ (ps_i s' 1131 64).toInt = (rl_r (arh h.1) l : Nat) ∧ kq [] [63, 64] s s' → R 1 s') (k0 : ∀ s', ¬ rl_is (arh h.1) l ∧ kq [] [63, 64] s s' → R 0 s') : pl_Cl n 284 [.ref 1131, .int x1] s (ps_rI R) := by
  cases n with
  | zero => exact pl_At_0
  | succ n =>
  show pl_At (n + 1) 284 0 [(0, .ref 1131), (1, .int x1)] [] s (ps_rI R)
  have hil := (List.getElem?_eq_some_iff.mp hi).1
  have h8 := H.2.2.1
  obtain ⟨y1, y2, W⟩ := H.2.2.2 i w l hi
  obtain ⟨hf, hl40, h60⟩ := hw.2.2 i w l hi
  obtain ⟨n1, n2, n3, b', W', n4⟩ := rl_n_ws (b := true) (W := []) (wf_ws hf)
  have hA := arh_k H.1.2.2.1 H.1.2.2.2.1
  have c4 : (4 : Int32).toInt = 4 := by decide
  have c6 : (6 : Int32).toInt = 6 := by decide
  have c20 : (20 : Int32).toInt = 20 := by decide
  have c40 : (40 : Int32).toInt = 40 := by decide
  refine pl_284_0 ?_
  refine fm_283 h21 hb hx (by omega) (fun x2 h2 => ?_)
  have hto : 21812 + 41 * (8 * b + i) < 27400 := by omega
  have key : ∀ (n : Nat) {x3 : Int32} {j : Nat}, x3.toInt = j → j ≤ rl_n l → pl_At n 284 11 [(0, .ref 1131), (2, .int x2), (3, .int x3)] [] s (ps_rI R) := by
    intro n
    induction n with
    | zero => exact fun _ _ => pl_At_0
    | succ n ih =>
      intro x3 j h3 hj
      obtain ⟨c, hc⟩ : ∃ c, l[j]? = some c := ⟨_, List.getElem?_eq_getElem (by omega)⟩
      refine pl_284_11 ?_
      refine fm_220c h2 hto W h3 hc (fun v q => ⟨fun z => ?_, fun z => ?_⟩)
      · have z := xne z
        have ej : j = rl_n l := by
          rcases Nat.lt_or_ge j (rl_n l) with y | y
          · have := n1 j y
            rw [hc] at this
            have := Option.some.inj this
            omega
          · omega
        subst ej
        refine fm_220c h2 hto W h3 hc (fun v2 q2 => ⟨fun z2 => ?_, fun z2 => ?_⟩)
        · have z2 := xne z2
          exact k0 _ ⟨fun y => by have y1 := y.1; rw [hc] at y1; have := Option.some.inj y1; omega, kq_refl⟩
        · have z2 := xeq z2
          have hc6 : c = 6 := by omega
          subst hc6
          rw [drop_c hc] at n4
          obtain ⟨ks, hks, hw2⟩ := ws_hd n4
          have hks2 : ks = [false, false] := by
            rcases kS_cases hks with z | z | z | z | z | z | z
            · omega
            · omega
            · omega
            · exact z.2.2
            · omega
            · omega
            · omega
          subst hks2
          have hlt := en_lt hA (k := 0) hw2 (by simp)
          rw [en_0, List.length_drop] at hlt
          obtain ⟨c2, hc2⟩ : ∃ c2, l[rl_l l]? = some c2 := ⟨_, List.getElem?_eq_getElem (by unfold rl_l; omega)⟩
          have hle := en_le hA (k := 1) hw2 (by simp)
          rw [List.length_drop] at hle
          have e31 : (x3 + 1).toInt = (rl_l l : Nat) := xj1 h3 (by omega)
          have hrle : rl_r (arh h.1) l ≤ l.length := by unfold rl_r rl_l; omega
          refine fm_220c h2 hto W e31 hc2 (fun v3 q3 => ⟨fun z3 => ?_, fun z3 => ?_⟩)
          · have z3 := xlt z3
            refine k0 _ ⟨fun y => ?_, kq_refl⟩
            obtain ⟨-, ⟨c3, hc3, g1, g2⟩, -⟩ := y
            rw [hc2] at hc3
            cases hc3
            omega
          · have z3 := xle z3
            refine fm_220c h2 hto W e31 hc2 (fun v4 q4 => ⟨fun z4 => ?_, fun z4 => ?_⟩)
            · have z4 := xlt z4
              have K : kq [] [63, 64] s (ps_ui s 1131 63 (x3 + 1)) := kqi kq_refl rfl
              have W2 : mv_W (ps_ui s 1131 63 (x3 + 1)) (21812 + 41 * (8 * b + i)) l := W
              refine fm_221 hb (by rw [kq_i K 21 rfl]; exact h21) (mv_E_kq H.1 K (by decide)) h2 hto W2 e31 hw2 (fun v5 q5 => ?_)
              have q5' : v5.toInt = (rl_r (arh h.1) l : Nat) := q5
              have K2 : kq [] [63, 64] s (ps_ui (ps_ui s 1131 63 (x3 + 1)) 1131 64 v5) := kqi K rfl
              exact fm_284_91 (s := ps_ui (ps_ui s 1131 63 (x3 + 1)) 1131 64 v5) h2 hto W e31 q5' hrle (fun y => k1 _ ⟨⟨hc, ⟨c2, hc2, by omega, by omega⟩, y⟩, e31, q5', K2⟩) (fun y => k0 _ ⟨fun y2 => y y2.2.2, K2⟩) n q5' (Nat.le_refl _) (fun q c a b => absurd a (by omega))
            · have z4 := xle z4
              refine k0 _ ⟨fun y => ?_, kq_refl⟩
              obtain ⟨-, ⟨c3, hc3, g1, g2⟩, -⟩ := y
              rw [hc2] at hc3
              cases hc3
              omega
      · have z := xeq z
        have hj2 : j < rl_n l := by
          rcases Nat.lt_or_ge j (rl_n l) with y | y
          · exact y
          · rw [show j = rl_n l from by omega] at hc
            rw [hc] at n3
            exact absurd (by rw [show c = 4 from by omega]) n3
        exact ih (xj1 h3 (by omega)) (by omega)
  exact key n (j := 0) rfl (Nat.zero_le _)
theorem or_zero32 (x : Int32) : x ||| 0 = x := by
  apply Int32.toBitVec_inj.mp
  rw [Int32.toBitVec_or]
  simp
theorem fm_285_4 {b : Nat} {h : tx_H} {s0 : ps_S} (hb : b < 2) (h21 : (ps_i s0 1131 21).toInt = b) (H0 : mv_H s0 b h) (hw : WFt h) : ∀ (n : Nat) {s : ps_S} {x1 x2 : Int32} {i : Nat}, kq [] [63, 64] s0 s → x2.toInt = i → i ≤ h.2.length → x1 = rl_b (rl_P h) i → pl_At n 285 4 [(0, .ref 1131), (1, .int x1), (2, .int x2)] [] s (ps_rI (fun v _ => rl_A h v))
  | 0, _, _, _, _, _, _, _, _ => pl_At_0
  | n + 1, s, x1, x2, i, K, h2, hi, h1 => by
    have h21' : (ps_i s 1131 21).toInt = b := by rw [kq_i K 21 rfl]; exact h21
    have H := mv_H_kq H0 K (by decide)
    have h8 := H.2.2.1
    have esz := H.2.1
    refine pl_285_4 ?_
    rw [xtn h21']
    intro bb
    refine ⟨fun z => ?_, fun z => ?_⟩
    · have z := xle z
      have e : i = h.2.length := by omega
      subst e
      exact h1
    · have z := xlt z
      obtain ⟨⟨w, l⟩, hk⟩ : ∃ p, h.2[i]? = some p := ⟨_, List.getElem?_eq_getElem (by omega)⟩
      refine fm_284 hb h21' H hw hk h2 (fun s1 q => ⟨fun y => absurd y (by decide), fun _ => ?_⟩) (fun s1 q => ⟨fun _ => ?_, fun y => absurd rfl y⟩)
      · refine fm_285_4 hb h21 H0 hw n (kqt K q.2.2.2 (by decide) (by decide)) (xj1 h2 (by omega)) (by omega) ?_
        rw [rl_b_1 ⟨w, l, hk, q.1⟩, h1, xnI h2]
      · refine fm_285_4 hb h21 H0 hw n (kqt K q.2 (by decide) (by decide)) (xj1 h2 (by omega)) (by omega) ?_
        rw [or_zero32, h1, rl_b_0 (fun y => ?_)]
        obtain ⟨w2, l2, hk2, y⟩ := y
        rw [hk] at hk2
        cases hk2
        exact q.1 y
theorem fm_285 {n : Nat} {s : ps_S} {h : tx_H} {l : List Nat} (m : TRm s h l) (hw : WFt h) : pl_Cl n 285 [.ref 1131] s (ps_rI (fun v _ => rl_A h v)) := by
  cases n with
  | zero => exact pl_At_0
  | succ n =>
  show pl_At (n + 1) 285 0 [(0, .ref 1131)] [] s _
  obtain ⟨b, m1, m2, m3, m4⟩ := m
  refine pl_285_0 ?_
  exact fm_285_4 m1 m2 m3 hw n (i := 0) kq_refl rfl (Nat.zero_le _) rfl

