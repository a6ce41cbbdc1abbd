set_option maxRecDepth 100000
/-! the reference reads a proof, step by step -/
-- ProofBenchModel.stepHere()I
theorem pl_233_0 {n : Nat} {s : ps_S} {Q : Option Value → ps_S → Prop} (h :
  ((ps_i s 1131 9) = 3 →
    ((lg_cmp (ps_j s 1131 11) (107148486208869 : Int64)) ≠ 0 →
      ((lg_cmp (ps_j s 1131 11) (418632003437 : Int64)) ≠ 0 →
        ((lg_cmp (ps_j s 1131 11) (32765882169189741 : Int64)) ≠ 0 →
          ((lg_cmp (ps_j s 1131 11) (1651471464 : Int64)) ≠ 0 →
            ((lg_cmp (ps_j s 1131 11) (1818584692 : Int64)) ≠ 0 →
              ((lg_cmp (ps_j s 1131 11) (491394656372 : Int64)) ≠ 0 →
                ((lg_cmp (ps_j s 1131 11) (122537235539572 : Int64)) ≠ 0 →
                  ((lg_cmp (ps_j s 1131 11) (31369558135105652 : Int64)) ≠ 0 →
                    ((lg_cmp (ps_j s 1131 11) (1667330917 : Int64)) ≠ 0 →
                      ((lg_cmp (ps_j s 1131 11) (418498243705 : Int64)) ≠ 0 →
                        ((lg_cmp (ps_j s 1131 11) (110386639889253 : Int64)) ≠ 0 →
                          ((lg_cmp (ps_j s 1131 11) (29103447424000364 : Int64)) ≠ 0 →
                            ((lg_cmp (ps_j s 1131 11) (32493203083583852 : Int64)) ≠ 0 →
                              ((lg_cmp (ps_j s 1131 11) (435811873652 : Int64)) ≠ 0 →
                                ((lg_cmp (ps_j s 1131 11) (1869636974 : Int64)) ≠ 0 →
                                  ((lg_cmp (ps_j s 1131 11) (1935764837 : Int64)) ≠ 0 →
                                    ((lg_cmp (ps_j s 1131 11) (32199680874079077 : Int64)) ≠ 0 →
                                      ((lg_cmp (ps_j s 1131 11) (107075471766116 : Int64)) ≠ 0 →
                                        ((lg_cmp (ps_j s 1131 11) (27985188498925923 : Int64)) ≠ 0 →
                                          Q (some (.int (-1))) s) ∧
                                        ((lg_cmp (ps_j s 1131 11) (27985188498925923 : Int64)) = 0 →
                                          Q (some (.int 18)) s)) ∧
                                      ((lg_cmp (ps_j s 1131 11) (107075471766116 : Int64)) = 0 →
                                        Q (some (.int 17)) s)) ∧
                                    ((lg_cmp (ps_j s 1131 11) (32199680874079077 : Int64)) = 0 →
                                      Q (some (.int 16)) s)) ∧
                                  ((lg_cmp (ps_j s 1131 11) (1935764837 : Int64)) = 0 →
                                    Q (some (.int 15)) s)) ∧
                                ((lg_cmp (ps_j s 1131 11) (1869636974 : Int64)) = 0 →
                                  Q (some (.int 14)) s)) ∧
                              ((lg_cmp (ps_j s 1131 11) (435811873652 : Int64)) = 0 →
                                Q (some (.int 13)) s)) ∧
                            ((lg_cmp (ps_j s 1131 11) (32493203083583852 : Int64)) = 0 →
                              Q (some (.int 12)) s)) ∧
                          ((lg_cmp (ps_j s 1131 11) (29103447424000364 : Int64)) = 0 →
                            Q (some (.int 11)) s)) ∧
                        ((lg_cmp (ps_j s 1131 11) (110386639889253 : Int64)) = 0 →
                          Q (some (.int 10)) s)) ∧
                      ((lg_cmp (ps_j s 1131 11) (418498243705 : Int64)) = 0 →
                        Q (some (.int 9)) s)) ∧
                    ((lg_cmp (ps_j s 1131 11) (1667330917 : Int64)) = 0 →
                      Q (some (.int 8)) s)) ∧
                  ((lg_cmp (ps_j s 1131 11) (31369558135105652 : Int64)) = 0 →
                    Q (some (.int 7)) s)) ∧
                ((lg_cmp (ps_j s 1131 11) (122537235539572 : Int64)) = 0 →
                  Q (some (.int 6)) s)) ∧
              ((lg_cmp (ps_j s 1131 11) (491394656372 : Int64)) = 0 →
                Q (some (.int 5)) s)) ∧
            ((lg_cmp (ps_j s 1131 11) (1818584692 : Int64)) = 0 →
              Q (some (.int 4)) s)) ∧
          ((lg_cmp (ps_j s 1131 11) (1651471464 : Int64)) = 0 →
            Q (some (.int 3)) s)) ∧
        ((lg_cmp (ps_j s 1131 11) (32765882169189741 : Int64)) = 0 →
          Q (some (.int 2)) s)) ∧
      ((lg_cmp (ps_j s 1131 11) (418632003437 : Int64)) = 0 →
        Q (some (.int 1)) s)) ∧
    ((lg_cmp (ps_j s 1131 11) (107148486208869 : Int64)) = 0 →
      Q (some (.int 0)) s)) ∧
  ((ps_i s 1131 9) ≠ 3 →
    Q (some (.int (-1))) s)) : pl_At (n + 1) 233 0 [(0, .ref 1131)] [] s Q :=
  pl_wp_at (stops := []) (f := 144) h rfl

-- ProofBenchModel.hasTerm(I)Z
theorem pl_235_0 {n : Nat} {x0 : Int32} {s : ps_S} {Q : Option Value → ps_S → Prop} (h :
  (x0 = 12 →
    Q (some (.int 1)) s) ∧
  (x0 ≠ 12 →
    (x0 = 13 →
      Q (some (.int 1)) s) ∧
    (x0 ≠ 13 →
      (x0 ≠ 15 →
        Q (some (.int 0)) s) ∧
      (x0 = 15 →
        Q (some (.int 1)) s)))) : pl_At (n + 1) 235 0 [(0, .int x0)] [] s Q :=
  pl_wp_at (stops := []) (f := 22) h rfl

-- ProofBenchModel.hasFormula(I)Z
theorem pl_236_0 {n : Nat} {x0 : Int32} {s : ps_S} {Q : Option Value → ps_S → Prop} (h :
  (x0 = 0 →
    Q (some (.int 1)) s) ∧
  (x0 ≠ 0 →
    (x0 = 6 →
      Q (some (.int 1)) s) ∧
    (x0 ≠ 6 →
      (x0 = 7 →
        Q (some (.int 1)) s) ∧
      (x0 ≠ 7 →
        (x0 = 10 →
          Q (some (.int 1)) s) ∧
        (x0 ≠ 10 →
          (x0 = 13 →
            Q (some (.int 1)) s) ∧
          (x0 ≠ 13 →
            (x0 < 16 →
              Q (some (.int 0)) s) ∧
            (16 ≤ x0 →
              Q (some (.int 1)) s))))))) : pl_At (n + 1) 236 0 [(0, .int x0)] [] s Q :=
  pl_wp_at (stops := []) (f := 39) h rfl

-- ProofBenchModel.anyNumber()I
theorem pl_237_0 {n : Nat} {s : ps_S} {Q : Option Value → ps_S → Prop} (h :
  pl_Cl n 192 [.ref 1131] s (ps_rI (fun v1 s1 =>
    (v1 ≠ 0 →
      ((ps_i s1 1131 9) ≠ 4 →
        pl_Cl n 197 [.ref 1131, .int 0] s1 (ps_rV (fun s2 =>
          Q (some (.int (ps_i s1 1131 10))) s2))) ∧
      ((ps_i s1 1131 9) = 4 →
        pl_Cl n 197 [.ref 1131, .int 1] s1 (ps_rV (fun s3 =>
          Q (some (.int (ps_i s1 1131 10))) s3)))) ∧
    (v1 = 0 →
      Q (some (.int 0)) s1)))) : pl_At (n + 1) 237 0 [(0, .ref 1131)] [] s Q :=
  pl_wp_at (stops := []) (f := 24) h rfl

-- ProofBenchModel.readStep()V
theorem pl_238_0 {n : Nat} {s : ps_S} {Q : Option Value → ps_S → Prop} (h :
  pl_Cl n 233 [.ref 1131] s (ps_rI (fun v1 s1 =>
    (v1 < 0 →
      pl_At n 238 20 [(0, .ref 1131), (1, .int (ps_i s 1131 42)), (2, .int v1)] [] s1 Q) ∧
    (0 ≤ v1 →
      ((ps_i s 1131 42) ≠ 40 →
        pl_At n 238 24 [(0, .ref 1131), (1, .int (ps_i s 1131 42)), (2, .int v1)] [] s1 Q) ∧
      ((ps_i s 1131 42) = 40 →
        pl_At n 238 20 [(0, .ref 1131), (1, .int (ps_i s 1131 42)), (2, .int v1)] [] s1 Q))))) : pl_At (n + 1) 238 0 [(0, .ref 1131)] [] s Q :=
  pl_wp_at (stops := [(20, [0, 1, 2]), (24, [0, 1, 2]), (53, [0, 1, 2]), (70, [0, 1, 2]), (88, [0, 1, 2]), (106, [0, 1, 2]), (134, [0, 1, 2]), (162, [0, 1, 2]), (181, [0, 1]), (205, [0]), (216, [0])]) (f := 13) h rfl

theorem pl_238_20 {n : Nat} {x1 : Int32} {x2 : Int32} {s : ps_S} {Q : Option Value → ps_S → Prop} (h :
  pl_Cl n 196 [.ref 1131] s (ps_rV (fun s1 =>
    pl_At n 238 24 [(0, .ref 1131), (1, .int x1), (2, .int x2)] [] s1 Q))) : pl_At (n + 1) 238 20 [(0, .ref 1131), (1, .int x1), (2, .int x2)] [] s Q :=
  pl_wp_at (stops := [(20, [0, 1, 2]), (24, [0, 1, 2]), (53, [0, 1, 2]), (70, [0, 1, 2]), (88, [0, 1, 2]), (106, [0, 1, 2]), (134, [0, 1, 2]), (162, [0, 1, 2]), (181, [0, 1]), (205, [0]), (216, [0])]) (f := 4) h rfl

theorem pl_238_24 {n : Nat} {x1 : Int32} {x2 : Int32} {s : ps_S} {Q : Option Value → ps_S → Prop} (h :
  pl_Cl n 192 [.ref 1131] s (ps_rI (fun v1 s1 =>
    (v1 ≠ 0 →
      pl_Cl n 194 [.ref 1131] s1 (ps_rV (fun s2 =>
        (pm_in x1 40 = true →
          (x2 ≠ 1 →
            pl_At n 238 53 [(0, .ref 1131), (1, .int x1), (2, .int x2)] [] (ps_ua s2 1152 (Int32.toNatClampNeg x1) x2) Q) ∧
          (x2 = 1 →
            pl_Cl n 239 [.ref 1131, .int x1] (ps_ua s2 1152 (Int32.toNatClampNeg x1) x2) (ps_rV (fun s3 =>
              pl_At n 238 53 [(0, .ref 1131), (1, .int x1), (2, .int x2)] [] s3 Q))))))) ∧
    (v1 = 0 →
      Q none s1)))) : pl_At (n + 1) 238 24 [(0, .ref 1131), (1, .int x1), (2, .int x2)] [] s Q :=
  pl_wp_at (stops := [(20, [0, 1, 2]), (24, [0, 1, 2]), (53, [0, 1, 2]), (70, [0, 1, 2]), (88, [0, 1, 2]), (106, [0, 1, 2]), (134, [0, 1, 2]), (162, [0, 1, 2]), (181, [0, 1]), (205, [0]), (216, [0])]) (f := 19) h rfl

theorem pl_238_53 {n : Nat} {x1 : Int32} {x2 : Int32} {s : ps_S} {Q : Option Value → ps_S → Prop} (h :
  pl_Cl n 234 [.int x2] s (ps_rI (fun v1 s1 =>
    (v1 ≤ 0 →
      pl_At n 238 70 [(0, .ref 1131), (1, .int x1), (2, .int x2)] [] s1 Q) ∧
    (0 < v1 →
      pl_Cl n 237 [.ref 1131] s1 (ps_rI (fun v2 s2 =>
        (pm_in x1 40 = true →
          pl_At n 238 70 [(0, .ref 1131), (1, .int x1), (2, .int x2)] [] (ps_ua s2 1153 (Int32.toNatClampNeg x1) v2) Q))))))) : pl_At (n + 1) 238 53 [(0, .ref 1131), (1, .int x1), (2, .int x2)] [] s Q :=
  pl_wp_at (stops := [(20, [0, 1, 2]), (24, [0, 1, 2]), (53, [0, 1, 2]), (70, [0, 1, 2]), (88, [0, 1, 2]), (106, [0, 1, 2]), (134, [0, 1, 2]), (162, [0, 1, 2]), (181, [0, 1]), (205, [0]), (216, [0])]) (f := 11) h rfl

theorem pl_238_70 {n : Nat} {x1 : Int32} {x2 : Int32} {s : ps_S} {Q : Option Value → ps_S → Prop} (h :
  pl_Cl n 234 [.int x2] s (ps_rI (fun v1 s1 =>
    (v1 ≤ 1 →
      pl_At n 238 88 [(0, .ref 1131), (1, .int x1), (2, .int x2)] [] s1 Q) ∧
    (1 < v1 →
      pl_Cl n 237 [.ref 1131] s1 (ps_rI (fun v2 s2 =>
        (pm_in x1 40 = true →
          pl_At n 238 88 [(0, .ref 1131), (1, .int x1), (2, .int x2)] [] (ps_ua s2 1154 (Int32.toNatClampNeg x1) v2) Q))))))) : pl_At (n + 1) 238 70 [(0, .ref 1131), (1, .int x1), (2, .int x2)] [] s Q :=
  pl_wp_at (stops := [(20, [0, 1, 2]), (24, [0, 1, 2]), (53, [0, 1, 2]), (70, [0, 1, 2]), (88, [0, 1, 2]), (106, [0, 1, 2]), (134, [0, 1, 2]), (162, [0, 1, 2]), (181, [0, 1]), (205, [0]), (216, [0])]) (f := 12) h rfl

theorem pl_238_88 {n : Nat} {x1 : Int32} {x2 : Int32} {s : ps_S} {Q : Option Value → ps_S → Prop} (h :
  pl_Cl n 234 [.int x2] s (ps_rI (fun v1 s1 =>
    (v1 ≤ 2 →
      pl_At n 238 106 [(0, .ref 1131), (1, .int x1), (2, .int x2)] [] s1 Q) ∧
    (2 < v1 →
      pl_Cl n 237 [.ref 1131] s1 (ps_rI (fun v2 s2 =>
        (pm_in x1 40 = true →
          pl_At n 238 106 [(0, .ref 1131), (1, .int x1), (2, .int x2)] [] (ps_ua s2 1155 (Int32.toNatClampNeg x1) v2) Q))))))) : pl_At (n + 1) 238 88 [(0, .ref 1131), (1, .int x1), (2, .int x2)] [] s Q :=
  pl_wp_at (stops := [(20, [0, 1, 2]), (24, [0, 1, 2]), (53, [0, 1, 2]), (70, [0, 1, 2]), (88, [0, 1, 2]), (106, [0, 1, 2]), (134, [0, 1, 2]), (162, [0, 1, 2]), (181, [0, 1]), (205, [0]), (216, [0])]) (f := 12) h rfl

theorem pl_238_106 {n : Nat} {x1 : Int32} {x2 : Int32} {s : ps_S} {Q : Option Value → ps_S → Prop} (h :
  pl_Cl n 192 [.ref 1131] s (ps_rI (fun v1 s1 =>
    (v1 = 0 →
      pl_At n 238 134 [(0, .ref 1131), (1, .int x1), (2, .int x2)] [] s1 Q) ∧
    (v1 ≠ 0 →
      pl_Cl n 235 [.int x2] s1 (ps_rI (fun v2 s2 =>
        (v2 = 0 →
          pl_At n 238 134 [(0, .ref 1131), (1, .int x1), (2, .int x2)] [] s2 Q) ∧
        (v2 ≠ 0 →
          pl_Cl n 209 [.ref 1131, .int ((24108 : Int32) + ((41 : Int32) * x1)), .int 0, .int 0] s2 (ps_rV (fun s3 =>
            pl_At n 238 134 [(0, .ref 1131), (1, .int x1), (2, .int x2)] [] s3 Q))))))))) : pl_At (n + 1) 238 106 [(0, .ref 1131), (1, .int x1), (2, .int x2)] [] s Q :=
  pl_wp_at (stops := [(20, [0, 1, 2]), (24, [0, 1, 2]), (53, [0, 1, 2]), (70, [0, 1, 2]), (88, [0, 1, 2]), (106, [0, 1, 2]), (134, [0, 1, 2]), (162, [0, 1, 2]), (181, [0, 1]), (205, [0]), (216, [0])]) (f := 17) h rfl

theorem pl_238_134 {n : Nat} {x1 : Int32} {x2 : Int32} {s : ps_S} {Q : Option Value → ps_S → Prop} (h :
  pl_Cl n 192 [.ref 1131] s (ps_rI (fun v1 s1 =>
    (v1 = 0 →
      pl_At n 238 162 [(0, .ref 1131), (1, .int x1), (2, .int x2)] [] s1 Q) ∧
    (v1 ≠ 0 →
      pl_Cl n 236 [.int x2] s1 (ps_rI (fun v2 s2 =>
        (v2 = 0 →
          pl_At n 238 162 [(0, .ref 1131), (1, .int x1), (2, .int x2)] [] s2 Q) ∧
        (v2 ≠ 0 →
          pl_Cl n 209 [.ref 1131, .int ((22468 : Int32) + ((41 : Int32) * x1)), .int 1, .int 0] s2 (ps_rV (fun s3 =>
            pl_At n 238 162 [(0, .ref 1131), (1, .int x1), (2, .int x2)] [] s3 Q))))))))) : pl_At (n + 1) 238 134 [(0, .ref 1131), (1, .int x1), (2, .int x2)] [] s Q :=
  pl_wp_at (stops := [(20, [0, 1, 2]), (24, [0, 1, 2]), (53, [0, 1, 2]), (70, [0, 1, 2]), (88, [0, 1, 2]), (106, [0, 1, 2]), (134, [0, 1, 2]), (162, [0, 1, 2]), (181, [0, 1]), (205, [0]), (216, [0])]) (f := 17) h rfl

theorem pl_238_162 {n : Nat} {x1 : Int32} {x2 : Int32} {s : ps_S} {Q : Option Value → ps_S → Prop} (h :
  pl_Cl n 192 [.ref 1131] s (ps_rI (fun v1 s1 =>
    (v1 = 0 →
      pl_At n 238 216 [(0, .ref 1131)] [] s1 Q) ∧
    (v1 ≠ 0 →
      (x2 = 11 →
        pl_At n 238 181 [(0, .ref 1131), (1, .int x1)] [] s1 Q) ∧
      (x2 ≠ 11 →
        (x2 ≠ 14 →
          pl_At n 238 216 [(0, .ref 1131)] [] s1 Q) ∧
        (x2 = 14 →
          pl_At n 238 181 [(0, .ref 1131), (1, .int x1)] [] s1 Q)))))) : pl_At (n + 1) 238 162 [(0, .ref 1131), (1, .int x1), (2, .int x2)] [] s Q :=
  pl_wp_at (stops := [(20, [0, 1, 2]), (24, [0, 1, 2]), (53, [0, 1, 2]), (70, [0, 1, 2]), (88, [0, 1, 2]), (106, [0, 1, 2]), (134, [0, 1, 2]), (162, [0, 1, 2]), (181, [0, 1]), (205, [0]), (216, [0])]) (f := 11) h rfl

theorem pl_238_181 {n : Nat} {x1 : Int32} {s : ps_S} {Q : Option Value → ps_S → Prop} (h :
  pl_Cl n 208 [.ref 1131] s (ps_rI (fun v1 s1 =>
    (v1 ≠ 0 →
      pl_Cl n 217 [.ref 1131] s1 (ps_rI (fun v2 s2 =>
        (pm_in x1 40 = true →
          pl_At n 238 205 [(0, .ref 1131)] [] (ps_ua s2 1156 (Int32.toNatClampNeg x1) v2) Q)))) ∧
    (v1 = 0 →
      pl_Cl n 196 [.ref 1131] s1 (ps_rV (fun s3 =>
        pl_At n 238 205 [(0, .ref 1131)] [] s3 Q)))))) : pl_At (n + 1) 238 181 [(0, .ref 1131), (1, .int x1)] [] s Q :=
  pl_wp_at (stops := [(20, [0, 1, 2]), (24, [0, 1, 2]), (53, [0, 1, 2]), (70, [0, 1, 2]), (88, [0, 1, 2]), (106, [0, 1, 2]), (134, [0, 1, 2]), (162, [0, 1, 2]), (181, [0, 1]), (205, [0]), (216, [0])]) (f := 14) h rfl

theorem pl_238_205 {n : Nat} {s : ps_S} {Q : Option Value → ps_S → Prop} (h :
  pl_Cl n 192 [.ref 1131] s (ps_rI (fun v1 s1 =>
    (v1 = 0 →
      pl_At n 238 216 [(0, .ref 1131)] [] s1 Q) ∧
    (v1 ≠ 0 →
      pl_Cl n 194 [.ref 1131] s1 (ps_rV (fun s2 =>
        pl_At n 238 216 [(0, .ref 1131)] [] s2 Q)))))) : pl_At (n + 1) 238 205 [(0, .ref 1131)] [] s Q :=
  pl_wp_at (stops := [(20, [0, 1, 2]), (24, [0, 1, 2]), (53, [0, 1, 2]), (70, [0, 1, 2]), (88, [0, 1, 2]), (106, [0, 1, 2]), (134, [0, 1, 2]), (162, [0, 1, 2]), (181, [0, 1]), (205, [0]), (216, [0])]) (f := 7) h rfl

theorem pl_238_216 {n : Nat} {s : ps_S} {Q : Option Value → ps_S → Prop} (h :
  ((ps_i s 1131 9) ≠ 5 →
    pl_Cl n 197 [.ref 1131, .int 0] s (ps_rV (fun s1 =>
      Q none (ps_ui s1 1131 42 ((ps_i s1 1131 42) + 1))))) ∧
  ((ps_i s 1131 9) = 5 →
    pl_Cl n 197 [.ref 1131, .int 1] s (ps_rV (fun s2 =>
      Q none (ps_ui s2 1131 42 ((ps_i s2 1131 42) + 1)))))) : pl_At (n + 1) 238 216 [(0, .ref 1131)] [] s Q :=
  pl_wp_at (stops := [(20, [0, 1, 2]), (24, [0, 1, 2]), (53, [0, 1, 2]), (70, [0, 1, 2]), (88, [0, 1, 2]), (106, [0, 1, 2]), (134, [0, 1, 2]), (162, [0, 1, 2]), (181, [0, 1]), (205, [0]), (216, [0])]) (f := 26) h rfl

-- ProofBenchModel.readAxiom(I)V
theorem pl_239_0 {n : Nat} {x1 : Int32} {s : ps_S} {Q : Option Value → ps_S → Prop} (h :
  ((ps_i s 1131 9) = 2 →
    pl_Cl n 205 [.ref 1131] s (ps_rI (fun v1 s1 =>
      (0 ≤ v1 →
        pl_At n 239 32 [(0, .ref 1131), (1, .int x1)] [] s1 Q) ∧
      (v1 < 0 →
        pl_Cl n 191 [.ref 1131, .int 6, .int (ps_i s1 1131 7)] s1 (ps_rV (fun s2 =>
          pl_At n 239 32 [(0, .ref 1131), (1, .int x1)] [] s2 Q)))))) ∧
  ((ps_i s 1131 9) ≠ 2 →
    pl_Cl n 196 [.ref 1131] s (ps_rV (fun s3 =>
      pl_At n 239 32 [(0, .ref 1131), (1, .int x1)] [] s3 Q)))) : pl_At (n + 1) 239 0 [(0, .ref 1131), (1, .int x1)] [] s Q :=
  pl_wp_at (stops := [(32, [0, 1])]) (f := 17) h rfl

theorem pl_239_32 {n : Nat} {x1 : Int32} {s : ps_S} {Q : Option Value → ps_S → Prop} (h :
  pl_Cl n 205 [.ref 1131] s (ps_rI (fun v1 s1 =>
    (pm_in x1 40 = true →
      pl_Cl n 192 [.ref 1131] (ps_ua s1 1153 (Int32.toNatClampNeg x1) v1) (ps_rI (fun v2 s2 =>
        (v2 = 0 →
          Q none s2) ∧
        (v2 ≠ 0 →
          pl_Cl n 194 [.ref 1131] s2 (ps_rV (fun s3 =>
            Q none s3))))))))) : pl_At (n + 1) 239 32 [(0, .ref 1131), (1, .int x1)] [] s Q :=
  pl_wp_at (stops := [(32, [0, 1])]) (f := 15) h rfl

def rv_L0 (s : ps_S) (rb : Nat) (T : Nat → Nat) (N : Nat) (h : tx_H) (p : Nat) : Prop := rb < 2 ∧ (ps_i s 1131 22).toInt = rb ∧ mv_H s rb h ∧ p ≤ N ∧ mv_K s (tx_tok T N p)
theorem fm_205p_2 {rb : Nat} {s : ps_S} {T : Nat → Nat} {N : Nat} {h : tx_H} {p : Nat} {R : Int32 → ps_S → Prop} (L : rv_L0 s rb T N h p) (k : ∀ v : Int32, tx_opt (if (tx_tok T N p).1 = 2 then tx_at (tx_A h) (tx_tok T N p).2.2.2.1 else none) v → R v s) : ∀ (n : Nat) {x1 : Int32} {i : Nat}, x1.toInt = i → i ≤ (tx_A h).length → ((tx_tok T N p).1 = 2 → ∀ j, j < i → (tx_A h)[j]? ≠ some (tx_tok T N p).2.2.2.1) → pl_At n 205 2 [(0, .ref 1131), (1, .int x1)] [] s (ps_rI R)
  | 0, _, _, _, _, _ => pl_At_0
  | n + 1, x1, i, hx, hi, hj => by
    obtain ⟨hrb, h22, hH, hp, hK⟩ := id L
    have h9 := hK.1
    have hwv := (tx_tok_ok (T := T) hp).2.2.2.1
    have hlen : (tx_A h).length = h.2.length := List.length_map ..
    have hcnt := hH.2.1
    have hmx := hH.2.2.1
    have c0 : (8 : Int32).toInt = 8 := by decide
    have e0 : (((8 : Int32) * (ps_i s 1131 22))).toInt = 8 * rb := by rw [xm01 h22 hrb, c0]
    have e1 : (((8 : Int32) * (ps_i s 1131 22)) + x1).toInt = (8 * rb + i : Nat) := by rw [xIa (by omega) (by omega)]; omega
    refine pl_205_2 ?_
    intro b11
    obtain ⟨b11, c11⟩ := pl_in b11
    rw [xtn h22]
    refine ⟨fun h12 => ?_, fun h12 => ?_⟩
    · have h12 : (ps_a s 1137 rb).toInt ≤ x1.toInt := xle h12
      refine k _ ⟨fun c hc => ?_, fun _ => rfl⟩
      split at hc
      · next z =>
        rw [tx_at_no (fun j hjl => hj z j (by omega))] at hc
        cases hc
      · cases hc
    · have h12 : x1.toInt < (ps_a s 1137 rb).toInt := xlt h12
      refine ⟨fun h20 => ?_, fun h20 => ?_⟩
      · have h20 : (ps_i s 1131 9).toInt ≠ (2 : Int) := xne h20
        exact fm_205p_2 L k n (xj1 hx (by omega)) (by omega) (fun z => by omega)
      · have h20 : (ps_i s 1131 9).toInt = (2 : Int) := xeq h20
        intro b36
        obtain ⟨b36, c36⟩ := pl_in b36
        have h2 : (tx_tok T N p).1 = 2 := by omega
        obtain ⟨w0, hg1⟩ : ∃ w0, (tx_A h)[i]? = some w0 := ⟨(tx_A h)[i]'(by omega), List.getElem?_eq_getElem _⟩
        obtain ⟨hg2, hg3⟩ : tx_w w0 ∧ ps_b s 1142 (8 * rb + i) = tx_m w0 := by
          unfold tx_A at hg1
          rw [List.getElem?_map] at hg1
          obtain ⟨q, q1, rfl⟩ := Option.map_eq_some_iff.mp hg1
          obtain ⟨z1, z2, z3⟩ := hH.2.2.2 i q.1 q.2 q1
          exact ⟨z1, z2⟩
        refine ⟨fun h42 => ?_, fun h42 => ?_⟩
        · have h42 := lg_nz h42
          refine fm_205p_2 L k n (xj1 hx (by omega)) (by omega) (fun _ j hjl => ?_)
          by_cases ej : j = i
          · rw [ej, hg1]
            intro z
            cases z
            exact h42 (by rw [xtn e1, hg3, hK.2.2.2.1 (Or.inl h2)])
          · exact hj h2 j (by omega)
        · have h42 := lg_z h42
          rw [xtn e1, hg3, hK.2.2.2.1 (Or.inl h2)] at h42
          have e := tx_at_is (by rw [hg1, tx_m_inj hg2 (hwv h2) h42]) (hj h2)
          refine k _ ⟨fun c hc => ?_, fun hc => ?_⟩
          · rw [if_pos h2, e] at hc
            cases hc
            exact hx
          · rw [if_pos h2, e] at hc
            cases hc
theorem fm_205p {n : Nat} {rb : Nat} {s : ps_S} {T : Nat → Nat} {N : Nat} {h : tx_H} {p : Nat} {R : Int32 → ps_S → Prop} (L : rv_L0 s rb T N h p) (k : ∀ v : Int32, tx_opt (if (tx_tok T N p).1 = 2 then tx_at (tx_A h) (tx_tok T N p).2.2.2.1 else none) v → R v s) : pl_Cl n 205 [.ref 1131] s (ps_rI R) := by
  cases n with
  | zero => exact pl_At_0
  | succ n =>
  show pl_At (n + 1) 205 0 [(0, .ref 1131)] [] s (ps_rI R)
  refine pl_205_0 ?_
  exact fm_205p_2 L k n (i := 0) rfl (Nat.zero_le _) (fun _ j hj => by omega)


/-- the word that stands here, held against one that stands for itself -/
theorem kw_eq {s : ps_S} {T : Nat → Nat} {N p q : Nat} {w : List Nat} {l1 : Int64} (hK : mv_K s (tx_tok T N p)) (h3 : (tx_tok T N p).1 = 3) (hq : tx_at tx_keys w = some q) (hl : tx_m w = l1) : (lg_cmp (ps_j s 1131 11) l1 = 0 → (tx_tok T N p).2.2.2.2 = q) ∧ (lg_cmp (ps_j s 1131 11) l1 ≠ 0 → (tx_tok T N p).2.2.2.2 ≠ q) := by
  have hww : tx_w w := tx_keys_w w (List.mem_of_getElem? (tx_ix_some hq).2.2.1)
  obtain ⟨z1, z2⟩ := (tx_tok_key (T := T) (n := N) (p := p)).1 h3
  refine ⟨fun h14 => ?_, fun h14 z => ?_⟩
  · have h14 := lg_z h14
    rw [hK.2.2.2.1 (Or.inr h3), ← hl] at h14
    rw [tx_m_inj z2 hww h14, hq] at z1
    exact (Option.some.inj z1).symm
  · have h14 := lg_nz h14
    apply h14
    rw [hK.2.2.2.1 (Or.inr h3), ← hl]
    rw [z] at z1
    obtain ⟨-, -, a3, -⟩ := tx_ix_some z1
    obtain ⟨-, -, b3, -⟩ := tx_ix_some hq
    rw [a3] at b3
    rw [Option.some.inj b3]
theorem fm_233 {n : Nat} {s : ps_S} {T : Nat → Nat} {N p : Nat} {R : Int32 → ps_S → Prop} (hp : p ≤ N) (hK : mv_K s (tx_tok T N p)) (k1 : ∀ v : Int32, (tx_tok T N p).1 = 3 → tp_ok (tx_tok T N p).2.2.2.2 → v.toInt = (kd (tx_tok T N p).2.2.2.2 : Nat) → R v s) (k0 : ∀ v : Int32, ¬ ((tx_tok T N p).1 = 3 ∧ tp_ok (tx_tok T N p).2.2.2.2) → v.toInt = -1 → R v s) : pl_Cl n 233 [.ref 1131] s (ps_rI R) := by
  cases n with
  | zero => exact pl_At_0
  | succ n =>
  show pl_At (n + 1) 233 0 [(0, .ref 1131)] [] s (ps_rI R)
  have h9 := hK.1
  refine pl_233_0 ⟨fun w => ?_, fun w => ?_⟩
  · have w : (ps_i s 1131 9).toInt = 3 := xeq w
    have h3 : (tx_tok T N p).1 = 3 := by omega
    have h28 := (tx_tok_ok (T := T) hp).2.2.2.2.1 h3
    have e0 := kw_eq hK h3 (w := [97, 115, 115, 117, 109, 101]) (q := 11) (l1 := (107148486208869 : Int64)) (by decide) (by decide +kernel)
    have e1 := kw_eq hK h3 (w := [97, 120, 105, 111, 109]) (q := 10) (l1 := (418632003437 : Int64)) (by decide) (by decide +kernel)
    have e2 := kw_eq hK h3 (w := [116, 104, 101, 111, 114, 101, 109]) (q := 12) (l1 := (32765882169189741 : Int64)) (by decide) (by decide +kernel)
    have e3 := kw_eq hK h3 (w := [98, 111, 116, 104]) (q := 13) (l1 := (1651471464 : Int64)) (by decide) (by decide +kernel)
    have e4 := kw_eq hK h3 (w := [108, 101, 102, 116]) (q := 14) (l1 := (1818584692 : Int64)) (by decide) (by decide +kernel)
    have e5 := kw_eq hK h3 (w := [114, 105, 103, 104, 116]) (q := 15) (l1 := (491394656372 : Int64)) (by decide) (by decide +kernel)
    have e6 := kw_eq hK h3 (w := [111, 114, 108, 101, 102, 116]) (q := 16) (l1 := (122537235539572 : Int64)) (by decide) (by decide +kernel)
    have e7 := kw_eq hK h3 (w := [111, 114, 114, 105, 103, 104, 116]) (q := 17) (l1 := (31369558135105652 : Int64)) (by decide) (by decide +kernel)
    have e8 := kw_eq hK h3 (w := [99, 97, 115, 101]) (q := 18) (l1 := (1667330917 : Int64)) (by decide) (by decide +kernel)
    have e9 := kw_eq hK h3 (w := [97, 112, 112, 108, 121]) (q := 19) (l1 := (418498243705 : Int64)) (by decide) (by decide +kernel)
    have e10 := kw_eq hK h3 (w := [100, 101, 100, 117, 99, 101]) (q := 20) (l1 := (110386639889253 : Int64)) (by decide) (by decide +kernel)
    have e11 := kw_eq hK h3 (w := [103, 101, 110, 101, 114, 97, 108]) (q := 21) (l1 := (29103447424000364 : Int64)) (by decide) (by decide +kernel)
    have e12 := kw_eq hK h3 (w := [115, 112, 101, 99, 105, 97, 108]) (q := 22) (l1 := (32493203083583852 : Int64)) (by decide) (by decide +kernel)
    have e13 := kw_eq hK h3 (w := [101, 120, 105, 115, 116]) (q := 23) (l1 := (435811873652 : Int64)) (by decide) (by decide +kernel)
    have e14 := kw_eq hK h3 (w := [111, 112, 101, 110]) (q := 24) (l1 := (1869636974 : Int64)) (by decide) (by decide +kernel)
    have e15 := kw_eq hK h3 (w := [115, 97, 109, 101]) (q := 6) (l1 := (1935764837 : Int64)) (by decide) (by decide +kernel)
    have e16 := kw_eq hK h3 (w := [114, 101, 112, 108, 97, 99, 101]) (q := 25) (l1 := (32199680874079077 : Int64)) (by decide) (by decide +kernel)
    have e17 := kw_eq hK h3 (w := [97, 98, 115, 117, 114, 100]) (q := 26) (l1 := (107075471766116 : Int64)) (by decide) (by decide +kernel)
    have e18 := kw_eq hK h3 (w := [99, 108, 97, 115, 115, 105, 99]) (q := 27) (l1 := (27985188498925923 : Int64)) (by decide) (by decide +kernel)
    refine ⟨fun w0 => ?_, fun w0 => ?_⟩
    · have w0 := e0.2 w0
      refine ⟨fun w1 => ?_, fun w1 => ?_⟩
      · have w1 := e1.2 w1
        refine ⟨fun w2 => ?_, fun w2 => ?_⟩
        · have w2 := e2.2 w2
          refine ⟨fun w3 => ?_, fun w3 => ?_⟩
          · have w3 := e3.2 w3
            refine ⟨fun w4 => ?_, fun w4 => ?_⟩
            · have w4 := e4.2 w4
              refine ⟨fun w5 => ?_, fun w5 => ?_⟩
              · have w5 := e5.2 w5
                refine ⟨fun w6 => ?_, fun w6 => ?_⟩
                · have w6 := e6.2 w6
                  refine ⟨fun w7 => ?_, fun w7 => ?_⟩
                  · have w7 := e7.2 w7
                    refine ⟨fun w8 => ?_, fun w8 => ?_⟩
                    · have w8 := e8.2 w8
                      refine ⟨fun w9 => ?_, fun w9 => ?_⟩
                      · have w9 := e9.2 w9
                        refine ⟨fun w10 => ?_, fun w10 => ?_⟩
                        · have w10 := e10.2 w10
                          refine ⟨fun w11 => ?_, fun w11 => ?_⟩
                          · have w11 := e11.2 w11
                            refine ⟨fun w12 => ?_, fun w12 => ?_⟩
                            · have w12 := e12.2 w12
                              refine ⟨fun w13 => ?_, fun w13 => ?_⟩
                              · have w13 := e13.2 w13
                                refine ⟨fun w14 => ?_, fun w14 => ?_⟩
                                · have w14 := e14.2 w14
                                  refine ⟨fun w15 => ?_, fun w15 => ?_⟩
                                  · have w15 := e15.2 w15
                                    refine ⟨fun w16 => ?_, fun w16 => ?_⟩
                                    · have w16 := e16.2 w16
                                      refine ⟨fun w17 => ?_, fun w17 => ?_⟩
                                      · have w17 := e17.2 w17
                                        refine ⟨fun w18 => ?_, fun w18 => ?_⟩
                                        · have w18 := e18.2 w18
                                          exact k0 _ (fun z => by have z2 := z.2; unfold tp_ok at z2; omega) (by decide)
                                        · have w18 := e18.1 w18
                                          exact k1 _ h3 (by rw [w18]; decide) (by rw [w18]; decide)
                                      · have w17 := e17.1 w17
                                        exact k1 _ h3 (by rw [w17]; decide) (by rw [w17]; decide)
                                    · have w16 := e16.1 w16
                                      exact k1 _ h3 (by rw [w16]; decide) (by rw [w16]; decide)
                                  · have w15 := e15.1 w15
                                    exact k1 _ h3 (by rw [w15]; decide) (by rw [w15]; decide)
                                · have w14 := e14.1 w14
                                  exact k1 _ h3 (by rw [w14]; decide) (by rw [w14]; decide)
                              · have w13 := e13.1 w13
                                exact k1 _ h3 (by rw [w13]; decide) (by rw [w13]; decide)
                            · have w12 := e12.1 w12
                              exact k1 _ h3 (by rw [w12]; decide) (by rw [w12]; decide)
                          · have w11 := e11.1 w11
                            exact k1 _ h3 (by rw [w11]; decide) (by rw [w11]; decide)
                        · have w10 := e10.1 w10
                          exact k1 _ h3 (by rw [w10]; decide) (by rw [w10]; decide)
                      · have w9 := e9.1 w9
                        exact k1 _ h3 (by rw [w9]; decide) (by rw [w9]; decide)
                    · have w8 := e8.1 w8
                      exact k1 _ h3 (by rw [w8]; decide) (by rw [w8]; decide)
                  · have w7 := e7.1 w7
                    exact k1 _ h3 (by rw [w7]; decide) (by rw [w7]; decide)
                · have w6 := e6.1 w6
                  exact k1 _ h3 (by rw [w6]; decide) (by rw [w6]; decide)
              · have w5 := e5.1 w5
                exact k1 _ h3 (by rw [w5]; decide) (by rw [w5]; decide)
            · have w4 := e4.1 w4
              exact k1 _ h3 (by rw [w4]; decide) (by rw [w4]; decide)
          · have w3 := e3.1 w3
            exact k1 _ h3 (by rw [w3]; decide) (by rw [w3]; decide)
        · have w2 := e2.1 w2
          exact k1 _ h3 (by rw [w2]; decide) (by rw [w2]; decide)
      · have w1 := e1.1 w1
        exact k1 _ h3 (by rw [w1]; decide) (by rw [w1]; decide)
    · have w0 := e0.1 w0
      exact k1 _ h3 (by rw [w0]; decide) (by rw [w0]; decide)
  · have w : (ps_i s 1131 9).toInt ≠ 3 := xne w
    exact k0 _ (fun z => by omega) (by decide)

theorem kd_c {r : Nat} (h : tp_ok r) : (kd r = 12 ↔ r = 22) ∧ (kd r = 13 ↔ r = 23) ∧ (kd r = 15 ↔ r = 6) ∧ (kd r = 1 ↔ r = 10) ∧ (kd r = 11 ↔ r = 21) ∧ (kd r = 14 ↔ r = 24) ∧ (kd r = 0 ↔ r = 11) ∧ (kd r = 6 ↔ r = 16) ∧ (kd r = 7 ↔ r = 17) ∧ (kd r = 10 ↔ r = 20) ∧ (16 ≤ kd r ↔ (r = 25 ∨ r = 26 ∨ r = 27)) ∧ kd r ≤ 18 := by
  rcases tp_ok_c h with rfl | rfl | rfl | rfl | rfl | rfl | rfl | rfl | rfl | rfl | rfl | rfl | rfl | rfl | rfl | rfl | rfl | rfl | rfl <;> decide
theorem fm_235 {n r : Nat} {x0 : Int32} {s : ps_S} {R : Int32 → ps_S → Prop} (hx : x0.toInt = (kd r : Nat)) (ho : tp_ok r) (k1 : tp_ht r → R 1 s) (k0 : ¬ tp_ht r → R 0 s) : pl_Cl n 235 [.int x0] s (ps_rI R) := by
  cases n with
  | zero => exact pl_At_0
  | succ n =>
  show pl_At (n + 1) 235 0 [(0, .int x0)] [] s (ps_rI R)
  obtain ⟨c1, c2, c3, -⟩ := kd_c ho
  refine pl_235_0 ⟨fun w => ?_, fun w => ⟨fun w1 => ?_, fun w1 => ⟨fun w2 => ?_, fun w2 => ?_⟩⟩⟩
  · have w : x0.toInt = 12 := xeq w
    exact k1 (by unfold tp_ht; omega)
  · have w1 : x0.toInt = 13 := xeq w1
    exact k1 (by unfold tp_ht; omega)
  · have w : x0.toInt ≠ 12 := xne w
    have w1 : x0.toInt ≠ 13 := xne w1
    have w2 : x0.toInt ≠ 15 := xne w2
    exact k0 (by unfold tp_ht; omega)
  · have w2 : x0.toInt = 15 := xeq w2
    exact k1 (by unfold tp_ht; omega)
theorem fm_236 {n r : Nat} {x0 : Int32} {s : ps_S} {R : Int32 → ps_S → Prop} (hx : x0.toInt = (kd r : Nat)) (ho : tp_ok r) (k1 : tp_hf r → R 1 s) (k0 : ¬ tp_hf r → R 0 s) : pl_Cl n 236 [.int x0] s (ps_rI R) := by
  cases n with
  | zero => exact pl_At_0
  | succ n =>
  show pl_At (n + 1) 236 0 [(0, .int x0)] [] s (ps_rI R)
  obtain ⟨-, c2, -, -, -, -, c7, c8, c9, c10, c11, -⟩ := kd_c ho
  refine pl_236_0 ⟨fun w => ?_, fun w => ⟨fun w1 => ?_, fun w1 => ⟨fun w2 => ?_, fun w2 => ⟨fun w3 => ?_, fun w3 => ⟨fun w4 => ?_, fun w4 => ⟨fun w5 => ?_, fun w5 => ?_⟩⟩⟩⟩⟩⟩
  · have w : x0.toInt = 0 := xeq w
    exact k1 (by unfold tp_hf; omega)
  · have w1 : x0.toInt = 6 := xeq w1
    exact k1 (by unfold tp_hf; omega)
  · have w2 : x0.toInt = 7 := xeq w2
    exact k1 (by unfold tp_hf; omega)
  · have w3 : x0.toInt = 10 := xeq w3
    exact k1 (by unfold tp_hf; omega)
  · have w4 : x0.toInt = 13 := xeq w4
    exact k1 (by unfold tp_hf; omega)
  · have w : x0.toInt ≠ 0 := xne w
    have w1 : x0.toInt ≠ 6 := xne w1
    have w2 : x0.toInt ≠ 7 := xne w2
    have w3 : x0.toInt ≠ 10 := xne w3
    have w4 : x0.toInt ≠ 13 := xne w4
    have w5 : x0.toInt < 16 := xlt w5
    exact k0 (by unfold tp_hf; omega)
  · have w5 : 16 ≤ x0.toInt := xle w5
    exact k1 (by unfold tp_hf; omega)
/-- the reference between two tokens -/
def rv_L (s : ps_S) (b : Nat) (T : Nat → Nat) (N : Nat) (h : tx_H) (fr : List (List Nat)) (q : Nat) : Prop := rv_L0 s b T N h q ∧ mv_T s T N ∧ mv_P s fr ∧ mv_G s
theorem mv_H_5 {A F : List Nat} {s s' : ps_S} {b : Nat} {h : tx_H} (hb : b < 2) (H : mv_H s b h) (K : kq A F s s') (hA : [1135, 1136, 1137, 1138, 1139, 1140, 1141, 1142].all (fun q => !A.contains q) = true) (hV : ∀ q, 21812 ≤ q → q < 22468 → ps_a s' 1134 q = ps_a s 1134 q) : mv_H s' b h := by
  rw [List.all_eq_true] at hA
  have f : ∀ q, q ∈ [1135, 1136, 1137, 1138, 1139, 1140, 1141, 1142] → A.contains q = false := fun q hq => by
    have := hA q hq
    rw [Bool.not_eq_true'] at this
    exact this
  exact mv_H_V hb H (fun r hr => kq_a K r (f r ((show ∀ r, r ∈ [1135, 1136, 1137, 1138, 1139] → r ∈ [1135, 1136, 1137, 1138, 1139, 1140, 1141, 1142] by decide) r hr))) (fun r hr => kq_b K r (f r ((show ∀ r, r ∈ [1140, 1141, 1142] → r ∈ [1135, 1136, 1137, 1138, 1139, 1140, 1141, 1142] by decide) r hr))) hV
theorem rv_L_adv {s s' : ps_S} {b : Nat} {T : Nat → Nat} {N p q : Nat} {h : tx_H} {fr : List (List Nat)} (L : rv_L s b T N h fr p) (hq : q ≤ N) (A : mv_A T N q s s') : rv_L s' b T N h fr q := by
  obtain ⟨⟨l1, l2, l3, -, -⟩, l6, l7, l8⟩ := L
  obtain ⟨K, k⟩ := A
  exact ⟨⟨l1, by rw [kq_i K 22 (by decide)]; exact l2, mv_H_kq l3 K (by decide), hq, k⟩, mv_T_kq l6 K (by decide) (by decide), mv_P_kq l7 K (by decide) (by decide), mv_G_kq l8 K (by decide) (by decide)⟩
theorem rv_L_q {A F : List Nat} {s s' : ps_S} {b : Nat} {T : Nat → Nat} {N q : Nat} {h : tx_H} {fr : List (List Nat)} (L : rv_L s b T N h fr q) (K : kq A F s s') (hA : A.all (fun a => [1152, 1153, 1154, 1155, 1156].contains a) = true) (hF : F.all (fun a => [42].contains a) = true) : rv_L s' b T N h fr q := by
  have K2 : kq [1152, 1153, 1154, 1155, 1156] [42] s s' := kqt kq_refl K hA hF
  obtain ⟨⟨l1, l2, l3, l4, l5⟩, l6, l7, l8⟩ := L
  exact ⟨⟨l1, by rw [kq_i K2 22 (by decide)]; exact l2, mv_H_kq l3 K2 (by decide), l4, mv_K_kq l5 K2 (by decide)⟩, mv_T_kq l6 K2 (by decide) (by decide), mv_P_kq l7 K2 (by decide) (by decide), mv_G_kq l8 K2 (by decide) (by decide)⟩
/-- what reading the i-th step may change -/
def KRd (i : Nat) (s0 s : ps_S) : Prop := kq [1134, 1143, 1144, 1145, 1146, 1147, 1148, 1152, 1153, 1154, 1155, 1156] [5, 6, 7, 8, 9, 10, 11, 23, 29, 30, 31, 32, 42] s0 s ∧ (∀ q, (q < 22468 + 41 * i ∨ 22468 + 41 * i + 41 ≤ q) → (q < 24108 + 41 * i ∨ 24108 + 41 * i + 41 ≤ q) → ps_a s 1134 q = ps_a s0 1134 q) ∧ ∀ j, j ≠ i → ps_a s 1152 j = ps_a s0 1152 j ∧ ps_a s 1153 j = ps_a s0 1153 j ∧ ps_a s 1154 j = ps_a s0 1154 j ∧ ps_a s 1155 j = ps_a s0 1155 j ∧ ps_a s 1156 j = ps_a s0 1156 j
theorem KRd_refl {i : Nat} {s : ps_S} : KRd i s s := ⟨kq_refl, fun _ _ _ => rfl, fun _ _ => ⟨rfl, rfl, rfl, rfl, rfl⟩⟩
theorem KRd_q {i : Nat} {A F : List Nat} {s0 s s' : ps_S} (K : KRd i s0 s) (q : kq A F s s') (hA : A.all (fun a => [1143, 1144, 1145, 1146, 1147, 1148].contains a) = true) (hF : F.all (fun a => [5, 6, 7, 8, 9, 10, 11, 23, 29, 30, 31, 32, 42].contains a) = true) : KRd i s0 s' := by
  have q2 : kq [1143, 1144, 1145, 1146, 1147, 1148] [5, 6, 7, 8, 9, 10, 11, 23, 29, 30, 31, 32, 42] s s' := kqt kq_refl q hA hF
  exact ⟨kqt K.1 q2 (by decide) (by decide), fun p a b => by rw [kq_a q2 1134 (by decide)]; exact K.2.1 p a b, fun j hj => by
    rw [kq_a q2 1152 (by decide), kq_a q2 1153 (by decide), kq_a q2 1154 (by decide), kq_a q2 1155 (by decide), kq_a q2 1156 (by decide)]
    exact K.2.2 j hj⟩
theorem KRd_a {i r : Nat} {v : Int32} {s0 s : ps_S} (K : KRd i s0 s) (hr : [1152, 1153, 1154, 1155, 1156].contains r = true) : KRd i s0 (ps_ua s r i v) := by
  have hr' := List.contains_iff_mem.mp hr
  refine ⟨kqa K.1 (List.contains_iff_mem.mpr ((show ∀ x, x ∈ [1152, 1153, 1154, 1155, 1156] → x ∈ [1134, 1143, 1144, 1145, 1146, 1147, 1148, 1152, 1153, 1154, 1155, 1156] by decide) r hr')), fun p a b => ?_, fun j hj => ?_⟩
  · rw [ps_a_ua, if_neg (fun z => by
      have : (1134 : Nat) ∈ [1152, 1153, 1154, 1155, 1156] := by rw [z.1]; exact hr'
      revert this
      decide)]
    exact K.2.1 p a b
  · rw [ps_a_ua, if_neg (fun z => hj z.2), ps_a_ua, if_neg (fun z => hj z.2), ps_a_ua, if_neg (fun z => hj z.2), ps_a_ua, if_neg (fun z => hj z.2), ps_a_ua, if_neg (fun z => hj z.2)]
    exact K.2.2 j hj
theorem KRd_po {i to : Nat} {s0 s s' : ps_S} (K : KRd i s0 s) (q : mv_fr2 to s s') (ht : to = 22468 + 41 * i ∨ to = 24108 + 41 * i) : KRd i s0 s' := by
  obtain ⟨k1, k2⟩ := q
  exact ⟨kqt K.1 k1 (by decide) (by decide), fun p a b => (k2 p (by omega)).trans (K.2.1 p a b), fun j hj => by
    rw [kq_a k1 1152 (by decide), kq_a k1 1153 (by decide), kq_a k1 1154 (by decide), kq_a k1 1155 (by decide), kq_a k1 1156 (by decide)]
    exact K.2.2 j hj⟩
/-- the reference as it reads a step; a fault -/
def rv_X (T : Nat → Nat) (N : Nat) (h : tx_H) (s0 s : ps_S) (b i : Nat) (P : List tp_P) (c : tp_P) (fr : List (List Nat)) (q ph : Nat) (C0 : pv_C) : Prop := rv_L s b T N h fr q ∧ gt_go (pv_st T N h) C0 (ph, (P, c), fr, q, 0) ∧ KRd i s0 s ∧ (ps_i s 1131 42).toInt = i
def rv_B (T : Nat → Nat) (N : Nat) (h : tx_H) (s0 s : ps_S) (i : Nat) (C0 : pv_C) : Prop := ∃ (X : List tp_P × tp_P) (fr : List (List Nat)) (pl k : Nat), gt_go (pv_st T N h) C0 (4, X, fr, pl, k) ∧ k ≠ 0 ∧ (ps_i s 1131 5).toInt = k ∧ (ps_i s 1131 6).toInt = pl ∧ KRd i s0 s
def rv_ok (T : Nat → Nat) (N : Nat) (h : tx_H) (s0 s' : ps_S) (b i : Nat) (P : List tp_P) (C0 : pv_C) : Prop := ∃ c fr q, (rv_L s' b T N h fr q ∧ gt_go (pv_st T N h) C0 (0, (P ++ [c], c), fr, q, 0) ∧ KRd i s0 s' ∧ (ps_i s' 1131 42).toInt = (i + 1 : Nat)) ∧ rkT s' i c
theorem tx_bk_0 {tk : tx_K} : tx_bk tk ≠ 0 := by
  unfold tx_bk
  split <;> decide
section RVR
variable {T : Nat → Nat} {N : Nat} {h : tx_H} {s0 s : ps_S} {b i : Nat} {P : List tp_P} {c : tp_P} {fr : List (List Nat)} {q : Nat} {C0 : pv_C} {R : ps_S → Prop}
theorem rv_B_5 (B : rv_B T N h s0 s i C0) : (ps_i s 1131 5).toInt ≠ 0 := by
  obtain ⟨X, fr, pl, k, -, h0, e, -⟩ := B
  omega
theorem rv_B_a {r : Nat} {v : Int32} (B : rv_B T N h s0 s i C0) (hr : [1152, 1153, 1154, 1155, 1156].contains r = true) : rv_B T N h s0 (ps_ua s r i v) i C0 := by
  obtain ⟨X, fr, pl, k, g, h0, e1, e2, K⟩ := B
  exact ⟨X, fr, pl, k, g, h0, e1, e2, KRd_a K hr⟩
theorem rv_B_i {v : Int32} (B : rv_B T N h s0 s i C0) : rv_B T N h s0 (ps_ui s 1131 42 v) i C0 := by
  obtain ⟨X, fr, pl, k, g, h0, e1, e2, K⟩ := B
  have K2 : kq [] [42] s (ps_ui s 1131 42 v) := kqi kq_refl (by decide)
  exact ⟨X, fr, pl, k, g, h0, by rw [kq_i K2 5 (by decide)]; exact e1, by rw [kq_i K2 6 (by decide)]; exact e2, KRd_q K K2 (by decide) (by decide)⟩
theorem rv_X_no {s' : ps_S} {ph k pl : Nat} {Y : List tp_P × tp_P} {fr' : List (List Nat)} (X : rv_X T N h s0 s b i P c fr q ph C0) (K : kq [] [5, 6] s s') (g : gt_go (pv_st T N h) (ph, (P, c), fr, q, 0) (4, Y, fr', pl, k)) (h0 : k ≠ 0) (e1 : (ps_i s' 1131 5).toInt = k) (e2 : (ps_i s' 1131 6).toInt = pl) : rv_B T N h s0 s' i C0 :=
  ⟨Y, fr', pl, k, gt_trans X.2.1 g, h0, e1, e2, KRd_q X.2.2.1 K (by decide) (by decide)⟩
theorem rv_X_eps {ph ph' : Nat} (X : rv_X T N h s0 s b i P c fr q ph C0) (g : gt_go (pv_st T N h) (ph, (P, c), fr, q, 0) (ph', (P, c), fr, q, 0)) : rv_X T N h s0 s b i P c fr q ph' C0 := ⟨X.1, gt_trans X.2.1 g, X.2.2⟩
theorem fm_238_216 {n : Nat} (X : rv_X T N h s0 s b i P c fr q 11 C0) (M : rkT s i c) (hi : i < 40) (k1 : ∀ s', rv_ok T N h s0 s' b i P C0 → R s') (k0 : ∀ s', rv_B T N h s0 s' i C0 → R s') : pl_At n 238 216 [(0, .ref 1131)] [] s (ps_rV R) := by
  cases n with
  | zero => exact pl_At_0
  | succ n =>
  obtain ⟨⟨⟨l1, l2, l3, l4, l5⟩, l6, l7, l8⟩, g, K, e42⟩ := id X
  have h9 := l5.1
  refine pl_238_216 ⟨fun w => ?_, fun w => ?_⟩
  · have w : (ps_i s 1131 9).toInt ≠ 5 := xne w
    refine fm_197g (rb := b) l8 l6 l4 l5 (fun z => absurd (by decide) z) (fun _ s1 q1 => ?_)
    refine k0 _ (rv_B_i (rv_X_no (Y := (P, c)) (fr' := fr) X q1.2.2 (gt_one ?_) tx_bk_0 q1.1 q1.2.1))
    rw [pv_st_11]
    unfold pv_11
    rw [if_neg (by omega)]
  · have w : (ps_i s 1131 9).toInt = 5 := xeq w
    refine fm_197g (rb := b) l8 l6 l4 l5 (fun _ s1 q1 => ?_) (fun z => absurd z (by decide))
    have K2 : kq [] [42] s1 (ps_ui s1 1131 42 (ps_i s1 1131 42 + 1)) := kqi kq_refl (by decide)
    have hb := (tx_tok_ok (T := T) l4).2.1
    have M1 : rkT s1 i c := by
      obtain ⟨t1, t2, t3, t4, t5, t6, t7, t8⟩ := M
      have e : ∀ r, ps_a s1 r = ps_a s r := fun r => kq_a q1.1 r rfl
      exact ⟨by rw [e]; exact t1, by rw [e]; exact t2, by rw [e]; exact t3, by rw [e]; exact t4, by rw [e]; exact t5, by rw [e]; exact t6, fun z => mv_W_kq (t7 z) q1.1 (by decide), fun z => mv_W_kq (t8 z) q1.1 (by decide)⟩
    refine k1 _ ⟨c, fr, _, ⟨rv_L_q (rv_L_adv X.1 hb q1) K2 (by decide) (by decide), gt_trans g (gt_one ?_), KRd_q (KRd_q K q1.1 (by decide) (by decide)) K2 (by decide) (by decide), ?_⟩, rkT_q M1 K2⟩
    · rw [pv_st_11]
      unfold pv_11
      rw [if_pos (by omega)]
    · rw [ps_i_ui, if_pos ⟨rfl, rfl⟩]
      exact xj1 (by rw [kq_i q1.1 42 (by decide)]; exact e42) (by omega)
theorem fm_238_216b {n : Nat} (B : rv_B T N h s0 s i C0) (k0 : ∀ s', rv_B T N h s0 s' i C0 → R s') : pl_At n 238 216 [(0, .ref 1131)] [] s (ps_rV R) := by
  cases n with
  | zero => exact pl_At_0
  | succ n =>
  have hb := rv_B_5 B
  exact pl_238_216 ⟨fun _ => fm_197b hb (k0 _ (rv_B_i B)), fun _ => fm_197b hb (k0 _ (rv_B_i B))⟩
theorem fm_238_205b {n : Nat} (B : rv_B T N h s0 s i C0) (k0 : ∀ s', rv_B T N h s0 s' i C0 → R s') : pl_At n 238 205 [(0, .ref 1131)] [] s (ps_rV R) := by
  cases n with
  | zero => exact pl_At_0
  | succ n =>
  exact pl_238_205 (fm_192 (fun z => absurd z (rv_B_5 B)) (fun _ => ⟨fun _ => fm_238_216b B k0, fun w => absurd rfl w⟩))
theorem fm_238_205 {n : Nat} (X : rv_L s b T N h fr q ∧ gt_go (pv_st T N h) C0 (11, (P, c), fr, (tx_tok T N q).2.2.1, 0) ∧ KRd i s0 s ∧ (ps_i s 1131 42).toInt = i) (M : rkT s i c) (hi : i < 40) (k1 : ∀ s', rv_ok T N h s0 s' b i P C0 → R s') (k0 : ∀ s', rv_B T N h s0 s' i C0 → R s') : pl_At n 238 205 [(0, .ref 1131)] [] s (ps_rV R) := by
  cases n with
  | zero => exact pl_At_0
  | succ n =>
  obtain ⟨⟨⟨l1, l2, l3, l4, l5⟩, l6, l7, l8⟩, g, K, e42⟩ := id X
  have hb := (tx_tok_ok (T := T) l4).2.1
  refine pl_238_205 (fm_192 (fun _ => ⟨fun w => absurd w (by decide), fun _ => ?_⟩) (fun z => absurd l8.1 z))
  refine fs_194 l6 l5.2.2.1 hb (fun s1 q1 => ?_)
  have M1 : rkT s1 i c := by
    obtain ⟨t1, t2, t3, t4, t5, t6, t7, t8⟩ := M
    have e : ∀ r, ps_a s1 r = ps_a s r := fun r => kq_a q1.1 r rfl
    exact ⟨by rw [e]; exact t1, by rw [e]; exact t2, by rw [e]; exact t3, by rw [e]; exact t4, by rw [e]; exact t5, by rw [e]; exact t6, fun z => mv_W_kq (t7 z) q1.1 (by decide), fun z => mv_W_kq (t8 z) q1.1 (by decide)⟩
  exact fm_238_216 ⟨rv_L_adv X.1 hb q1, g, KRd_q K q1.1 (by decide) (by decide), by rw [kq_i q1.1 42 (by decide)]; exact e42⟩ M1 hi k1 k0
/-- an X of a step -/
theorem fm_208p {n : Nat} {R : Int32 → ps_S → Prop} (L : rv_L s b T N h fr q) (k1 : ((tx_tok T N q).1 = 2 ∧ tx_at (h.1.1.map Prod.fst) (tx_tok T N q).2.2.2.1 = none ∧ tx_at (h.1.2.map Prod.fst) (tx_tok T N q).2.2.2.1 = none) → R 1 s) (k0 : ¬ ((tx_tok T N q).1 = 2 ∧ tx_at (h.1.1.map Prod.fst) (tx_tok T N q).2.2.2.1 = none ∧ tx_at (h.1.2.map Prod.fst) (tx_tok T N q).2.2.2.1 = none) → R 0 s) : pl_Cl n 208 [.ref 1131] s (ps_rI R) := by
  cases n with
  | zero => exact pl_At_0
  | succ n =>
  show pl_At (n + 1) 208 0 [(0, .ref 1131)] [] s (ps_rI R)
  obtain ⟨⟨hrb, h22, hH, hp, hK⟩, -⟩ := L
  have h9 := hK.1
  refine pl_208_0 ⟨fun h5 => ?_, fun h5 => ?_⟩
  · have h5 : (ps_i s 1131 9).toInt ≠ (2 : Int) := xne h5
    exact k0 (fun z => by have := z.1; omega)
  · have h5 : (ps_i s 1131 9).toInt = (2 : Int) := xeq h5
    have h2 : (tx_tok T N q).1 = 2 := by omega
    refine fm_206 (E := (h.1, false)) hrb h22 hH.1 hp hK (fun v9 q9 => ⟨fun h12 => ?_, fun h12 => ?_⟩)
    · have h12 : (0 : Int) ≤ v9.toInt := xle h12
      refine k0 (fun z => ?_)
      have e := (tx_opt_n q9).mpr (by rw [if_pos z.1]; exact z.2.1)
      omega
    · have h12 : v9.toInt < (0 : Int) := xlt h12
      refine fm_207 (E := (h.1, false)) hrb h22 hH.1 hp hK (fun v16 q16 => ⟨fun h19 => ?_, fun h19 => ?_⟩)
      · have h19 : (0 : Int) ≤ v16.toInt := xle h19
        refine k0 (fun z => ?_)
        have e := (tx_opt_n q16).mpr (by rw [if_pos z.1]; exact z.2.2)
        omega
      · have h19 : v16.toInt < (0 : Int) := xlt h19
        have a := (tx_opt_n q9).mp (by omega)
        have b := (tx_opt_n q16).mp (by omega)
        rw [if_pos h2] at a b
        exact k1 ⟨h2, a, b⟩
theorem mv_P_add {s s' : ps_S} {fr : List (List Nat)} {w : List Nat} (hP : mv_P s fr) (hl : fr.length < 12) (hw : tx_w w) (e2 : (ps_i s' 1131 23).toInt = (fr.length : Int) + 1) (eb : ∀ k, k < fr.length → ps_b s' 1143 k = ps_b s 1143 k) (en : ps_b s' 1143 fr.length = tx_m w) : mv_P s' (fr ++ [w]) := by
  obtain ⟨f1, f2, f3⟩ := hP
  have hlen : (fr ++ [w]).length = fr.length + 1 := List.length_append
  refine ⟨by omega, by omega, fun k w' hk => ?_⟩
  by_cases hkl : k < fr.length
  · rw [List.getElem?_append_left hkl] at hk
    rw [eb k hkl]
    exact f3 k w' hk
  · have hk' := (List.getElem?_eq_some_iff.mp hk).1
    have e : k = fr.length := by omega
    rw [e] at hk ⊢
    rw [List.getElem?_append_right (Nat.le_refl _), Nat.sub_self, List.getElem?_cons_zero] at hk
    cases hk
    exact ⟨hw, en⟩
/-- its number -/
def rv_F (s : ps_S) (b : Nat) (T : Nat → Nat) (N : Nat) (h : tx_H) (fr : List (List Nat)) (q : Nat) (v : Int32) (s' : ps_S) : Prop := (∃ a fr2, tx_fi fr (tx_tok T N q).2.2.2.1 = some (a, fr2) ∧ v.toInt = a ∧ rv_L s' b T N h fr2 q ∧ kq [1143] [23] s s') ∨ (tx_fi fr (tx_tok T N q).2.2.2.1 = none ∧ (ps_i s' 1131 5).toInt = 2 ∧ (ps_i s' 1131 6).toInt = (tx_tok T N q).2.1 ∧ kq [] [5, 6] s s')
theorem fm_217p_2 {R : Int32 → ps_S → Prop} (L : rv_L s b T N h fr q) (h2 : (tx_tok T N q).1 = 2) (k : ∀ v s', rv_F s b T N h fr q v s' → R v s') : ∀ (n : Nat) {x1 : Int32} {j : Nat}, x1.toInt = j → j ≤ fr.length → (∀ m, m < j → fr[m]? ≠ some (tx_tok T N q).2.2.2.1) → pl_At n 217 2 [(0, .ref 1131), (1, .int x1)] [] s (ps_rI R)
  | 0, _, _, _, _, _ => pl_At_0
  | n + 1, x1, j, hx, hi, hj => by
    obtain ⟨⟨hrb, h22, hH, hp, HK⟩, lT, lP, hG⟩ := id L
    have hw := (tx_tok_ok (T := T) hp).2.2.2.1 h2
    have h8 := HK.2.2.2.1 (Or.inl h2)
    obtain ⟨f1, f2, f3⟩ := lP
    have no : j = fr.length → tx_at fr (tx_tok T N q).2.2.2.1 = none := fun z => tx_at_no (fun m hm => hj m (by omega))
    refine pl_217_2 ⟨fun h7 => ⟨fun h38 => fun _ => ?_, fun h38 => ?_⟩, fun h7 => fun _ => ⟨fun h21 => ?_, fun h21 => ?_⟩⟩
    · have h7 : (ps_i s 1131 23).toInt ≤ x1.toInt := xle h7
      have h38 : (ps_i s 1131 23).toInt ≠ (12 : Int) := xne h38
      have e : tx_fi fr (tx_tok T N q).2.2.2.1 = some (fr.length, fr ++ [(tx_tok T N q).2.2.2.1]) := by
        unfold tx_fi
        rw [no (by omega)]
        dsimp only
        rw [if_pos (by omega)]
      rw [xtn f1]
      have K : kq [1143] [23] s (ps_ui (ps_ub s 1143 fr.length (ps_j s 1131 11)) 1131 23 (ps_i (ps_ub s 1143 fr.length (ps_j s 1131 11)) 1131 23 + 1)) := kqi (kqb kq_refl (by decide)) (by decide)
      refine k _ _ (Or.inl ⟨_, _, e, ?_, ⟨⟨hrb, by rw [kq_i K 22 (by decide)]; exact h22, mv_H_kq hH K (by decide), hp, mv_K_kq HK K (by decide)⟩, mv_T_kq lT K (by decide) (by decide), mv_P_add ⟨f1, f2, f3⟩ (by omega) hw ?_ (fun m hm => ?_) ?_, mv_G_kq hG K (by decide) (by decide)⟩, K⟩)
      · show ((ps_i s 1131 23 + 1) - 1 : Int32).toInt = _
        have h1 : (1 : Int32).toInt = 1 := by decide
        have e1 := xj1 f1 (by omega)
        rw [xIs (by omega) (by omega)]
        omega
      · show (ps_i s 1131 23 + 1 : Int32).toInt = _
        have e1 := xj1 f1 (by omega)
        omega
      · rw [ps_b_ui, ps_b_ub, if_neg (by omega)]
      · rw [ps_b_ui, ps_b_ub, if_pos ⟨rfl, rfl⟩]
        exact h8
    · have h7 : (ps_i s 1131 23).toInt ≤ x1.toInt := xle h7
      have h38 : (ps_i s 1131 23).toInt = (12 : Int) := xeq h38
      refine fm_196 hG.1 HK (fun s1 q1 => ?_)
      have e : tx_fi fr (tx_tok T N q).2.2.2.1 = none := by
        unfold tx_fi
        rw [no (by omega)]
        dsimp only
        rw [if_neg (by omega)]
      have z := q1.1
      unfold tx_bk at z
      rw [if_neg (by omega)] at z
      exact k _ _ (Or.inr ⟨e, z, q1.2.1, q1.2.2⟩)
    · have h7 : x1.toInt < (ps_i s 1131 23).toInt := xlt h7
      obtain ⟨w0, hg1⟩ : ∃ w0, fr[j]? = some w0 := ⟨fr[j]'(by omega), List.getElem?_eq_getElem _⟩
      obtain ⟨hg2, hg3⟩ := f3 j w0 hg1
      have h21 := lg_nz h21
      refine fm_217p_2 L h2 k n (xj1 hx (by omega)) (by omega) (fun m hm => ?_)
      by_cases ej : m = j
      · rw [ej, hg1]
        intro z
        cases z
        exact h21 (by rw [xtn hx, hg3, h8])
      · exact hj m (by omega)
    · have h7 : x1.toInt < (ps_i s 1131 23).toInt := xlt h7
      obtain ⟨w0, hg1⟩ : ∃ w0, fr[j]? = some w0 := ⟨fr[j]'(by omega), List.getElem?_eq_getElem _⟩
      obtain ⟨hg2, hg3⟩ := f3 j w0 hg1
      have h21 := lg_z h21
      rw [xtn hx, hg3] at h21
      have e : tx_fi fr (tx_tok T N q).2.2.2.1 = some (j, fr) := by
        unfold tx_fi
        rw [tx_at_is (by rw [hg1, tx_m_inj hg2 hw (h21.trans h8)]) hj]
      exact k _ _ (Or.inl ⟨_, _, e, hx, L, kq_refl⟩)
theorem fm_217p {n : Nat} {R : Int32 → ps_S → Prop} (L : rv_L s b T N h fr q) (h2 : (tx_tok T N q).1 = 2) (k : ∀ v s', rv_F s b T N h fr q v s' → R v s') : pl_Cl n 217 [.ref 1131] s (ps_rI R) := by
  cases n with
  | zero => exact pl_At_0
  | succ n =>
  show pl_At (n + 1) 217 0 [(0, .ref 1131)] [] s (ps_rI R)
  refine pl_217_0 ?_
  exact fm_217p_2 L h2 k n (j := 0) rfl (Nat.zero_le _) (fun j hj => by omega)
/-- what is kept of a step, but for its X, term, formula -/
def rq5 (s : ps_S) (i : Nat) (c : tp_P) : Prop := (ps_a s 1152 i).toInt = (kd c.1.1 : Nat) ∧ (∀ m, m < tp_nn c.1.1 → (ps_a s (1153 + m) i).toInt = pr_k c m) ∧ (c.1.1 = 10 → (ps_a s 1153 i).toInt = c.2.1.1)
def rq7 (s : ps_S) (i : Nat) (c : tp_P) : Prop := rq5 s i c ∧ (tp_ht c.1.1 → mv_W s (24108 + 41 * i) c.2.2.1)
def rq8 (s : ps_S) (i : Nat) (c : tp_P) : Prop := rq7 s i c ∧ (tp_hf c.1.1 → mv_W s (22468 + 41 * i) c.2.2.2)
theorem rq8_T {s : ps_S} {i : Nat} {c : tp_P} (M : rq8 s i c) (hX : tp_hx c.1.1 → (ps_a s 1156 i).toInt = c.2.1.2) : rkT s i c := by
  obtain ⟨⟨⟨m1, m2, m3⟩, m4⟩, m5⟩ := M
  exact ⟨m1, fun z => m2 0 (by omega), fun z => m2 1 (by omega), fun z => m2 2 (by omega), m3, hX, m4, m5⟩
theorem rq5_kq {A F : List Nat} {s s' : ps_S} {i : Nat} {c : tp_P} (M : rq5 s i c) (K : kq A F s s') (hA : [1152, 1153, 1154, 1155].all (fun q => !A.contains q) = true) : rq5 s' i c := by
  rw [List.all_eq_true] at hA
  have f : ∀ q, q ∈ [1152, 1153, 1154, 1155] → A.contains q = false := fun q hq => by
    have := hA q hq
    rw [Bool.not_eq_true'] at this
    exact this
  obtain ⟨m1, m2, m3⟩ := M
  have h33 := tp_nn_3 (r := c.1.1)
  refine ⟨by rw [kq_a K 1152 (f _ (by decide))]; exact m1, fun m hm => ?_, fun z => by rw [kq_a K 1153 (f _ (by decide))]; exact m3 z⟩
  rcases (show m = 0 ∨ m = 1 ∨ m = 2 by omega) with rfl | rfl | rfl
  · rw [kq_a K (1153 + 0) (f _ (by decide))]; exact m2 0 hm
  · rw [kq_a K (1153 + 1) (f _ (by decide))]; exact m2 1 hm
  · rw [kq_a K (1153 + 2) (f _ (by decide))]; exact m2 2 hm
end RVR

