set_option maxRecDepth 100000
/-! the reference's reader: its small methods -/
-- ProofBenchModel.fails(II)V
theorem pl_191_0 {n : Nat} {x1 : Int32} {x2 : Int32} {s : ps_S} {Q : Option Value → ps_S → Prop} (h :
  ((ps_i s 1131 5) ≤ 0 →
    Q none (ps_ui (ps_ui s 1131 5 x1) 1131 6 x2)) ∧
  (0 < (ps_i s 1131 5) →
    Q none s)) : pl_At (n + 1) 191 0 [(0, .ref 1131), (1, .int x1), (2, .int x2)] [] s Q :=
  pl_wp_at (stops := []) (f := 13) h rfl

-- ProofBenchModel.isGood()Z
theorem pl_192_0 {n : Nat} {s : ps_S} {Q : Option Value → ps_S → Prop} (h :
  ((ps_i s 1131 5) ≠ 0 →
    Q (some (.int 0)) s) ∧
  ((ps_i s 1131 5) = 0 →
    Q (some (.int 1)) s)) : pl_At (n + 1) 192 0 [(0, .ref 1131)] [] s Q :=
  pl_wp_at (stops := []) (f := 10) h rfl

-- ProofBenchModel.misplaced()V
theorem pl_196_0 {n : Nat} {s : ps_S} {Q : Option Value → ps_S → Prop} (h :
  ((ps_i s 1131 9) ≠ 1 →
    pl_Cl n 191 [.ref 1131, .int 2, .int (ps_i s 1131 7)] s (ps_rV (fun s1 =>
      Q none s1))) ∧
  ((ps_i s 1131 9) = 1 →
    pl_Cl n 191 [.ref 1131, .int 1, .int (ps_i s 1131 7)] s (ps_rV (fun s2 =>
      Q none s2)))) : pl_At (n + 1) 196 0 [(0, .ref 1131)] [] s Q :=
  pl_wp_at (stops := []) (f := 18) h rfl

-- ProofBenchModel.isWord(J)Z
theorem pl_195_0 {n : Nat} {l1 : Int64} {s : ps_S} {Q : Option Value → ps_S → Prop} (h :
  ((ps_i s 1131 9) ≠ 3 →
    Q (some (.int 0)) s) ∧
  ((ps_i s 1131 9) = 3 →
    ((lg_cmp (ps_j s 1131 11) l1) ≠ 0 →
      Q (some (.int 0)) s) ∧
    ((lg_cmp (ps_j s 1131 11) l1) = 0 →
      Q (some (.int 1)) s))) : pl_At (n + 1) 195 0 [(0, .ref 1131), (1, .long l1)] [] s Q :=
  pl_wp_at (stops := []) (f := 18) h rfl

-- ProofBenchModel.relHere()I
theorem pl_206_0 {n : Nat} {s : ps_S} {Q : Option Value → ps_S → Prop} (h :
  pl_At n 206 2 [(0, .ref 1131), (1, .int 0)] [] s Q) : pl_At (n + 1) 206 0 [(0, .ref 1131)] [] s Q :=
  pl_wp_at (stops := [(2, [0, 1])]) (f := 4) h rfl

theorem pl_206_2 {n : Nat} {x1 : Int32} {s : ps_S} {Q : Option Value → ps_S → Prop} (h :
  (pm_in (ps_i s 1131 22) 2 = true →
    ((ps_a s 1135 (Int32.toNatClampNeg (ps_i s 1131 22))) ≤ x1 →
      Q (some (.int (-1))) s) ∧
    (x1 < (ps_a s 1135 (Int32.toNatClampNeg (ps_i s 1131 22))) →
      ((ps_i s 1131 9) ≠ 2 →
        pl_At n 206 2 [(0, .ref 1131), (1, .int (x1 + 1))] [] s Q) ∧
      ((ps_i s 1131 9) = 2 →
        (pm_in (((6 : Int32) * (ps_i s 1131 22)) + x1) 12 = true →
          ((lg_cmp (ps_b s 1140 (Int32.toNatClampNeg (((6 : Int32) * (ps_i s 1131 22)) + x1))) (ps_j s 1131 11)) ≠ 0 →
            pl_At n 206 2 [(0, .ref 1131), (1, .int (x1 + 1))] [] s Q) ∧
          ((lg_cmp (ps_b s 1140 (Int32.toNatClampNeg (((6 : Int32) * (ps_i s 1131 22)) + x1))) (ps_j s 1131 11)) = 0 →
            Q (some (.int x1)) s)))))) : pl_At (n + 1) 206 2 [(0, .ref 1131), (1, .int x1)] [] s Q :=
  pl_wp_at (stops := [(2, [0, 1])]) (f := 34) h rfl

-- ProofBenchModel.funHere()I
theorem pl_207_0 {n : Nat} {s : ps_S} {Q : Option Value → ps_S → Prop} (h :
  pl_At n 207 2 [(0, .ref 1131), (1, .int 0)] [] s Q) : pl_At (n + 1) 207 0 [(0, .ref 1131)] [] s Q :=
  pl_wp_at (stops := [(2, [0, 1])]) (f := 4) h rfl

theorem pl_207_2 {n : Nat} {x1 : Int32} {s : ps_S} {Q : Option Value → ps_S → Prop} (h :
  (pm_in (ps_i s 1131 22) 2 = true →
    ((ps_a s 1136 (Int32.toNatClampNeg (ps_i s 1131 22))) ≤ x1 →
      Q (some (.int (-1))) s) ∧
    (x1 < (ps_a s 1136 (Int32.toNatClampNeg (ps_i s 1131 22))) →
      ((ps_i s 1131 9) ≠ 2 →
        pl_At n 207 2 [(0, .ref 1131), (1, .int (x1 + 1))] [] s Q) ∧
      ((ps_i s 1131 9) = 2 →
        (pm_in (((4 : Int32) * (ps_i s 1131 22)) + x1) 8 = true →
          ((lg_cmp (ps_b s 1141 (Int32.toNatClampNeg (((4 : Int32) * (ps_i s 1131 22)) + x1))) (ps_j s 1131 11)) ≠ 0 →
            pl_At n 207 2 [(0, .ref 1131), (1, .int (x1 + 1))] [] s Q) ∧
          ((lg_cmp (ps_b s 1141 (Int32.toNatClampNeg (((4 : Int32) * (ps_i s 1131 22)) + x1))) (ps_j s 1131 11)) = 0 →
            Q (some (.int x1)) s)))))) : pl_At (n + 1) 207 2 [(0, .ref 1131), (1, .int x1)] [] s Q :=
  pl_wp_at (stops := [(2, [0, 1])]) (f := 34) h rfl

-- ProofBenchModel.isX()Z
theorem pl_208_0 {n : Nat} {s : ps_S} {Q : Option Value → ps_S → Prop} (h :
  ((ps_i s 1131 9) ≠ 2 →
    Q (some (.int 0)) s) ∧
  ((ps_i s 1131 9) = 2 →
    pl_Cl n 206 [.ref 1131] s (ps_rI (fun v1 s1 =>
      (0 ≤ v1 →
        Q (some (.int 0)) s1) ∧
      (v1 < 0 →
        pl_Cl n 207 [.ref 1131] s1 (ps_rI (fun v2 s2 =>
          (0 ≤ v2 →
            Q (some (.int 0)) s2) ∧
          (v2 < 0 →
            Q (some (.int 1)) s2)))))))) : pl_At (n + 1) 208 0 [(0, .ref 1131)] [] s Q :=
  pl_wp_at (stops := []) (f := 21) h rfl

-- ProofBenchModel.emit(II)V
theorem pl_210_0 {n : Nat} {x1 : Int32} {x2 : Int32} {s : ps_S} {Q : Option Value → ps_S → Prop} (h :
  (pm_in x1 27400 = true →
    (pm_in x1 27400 = true →
      (pm_in x1 27400 = true →
        (pm_in (x1 + (ps_a (ps_ua s 1134 (Int32.toNatClampNeg x1) ((ps_a s 1134 (Int32.toNatClampNeg x1)) + 1)) 1134 (Int32.toNatClampNeg x1))) 27400 = true →
          Q none (ps_ua (ps_ua s 1134 (Int32.toNatClampNeg x1) ((ps_a s 1134 (Int32.toNatClampNeg x1)) + 1)) 1134 (Int32.toNatClampNeg (x1 + (ps_a (ps_ua s 1134 (Int32.toNatClampNeg x1) ((ps_a s 1134 (Int32.toNatClampNeg x1)) + 1)) 1134 (Int32.toNatClampNeg x1)))) x2)))))) : pl_At (n + 1) 210 0 [(0, .ref 1131), (1, .int x1), (2, .int x2)] [] s Q :=
  pl_wp_at (stops := []) (f := 21) h rfl

-- ProofBenchModel.push(IZ)V
theorem pl_211_0 {n : Nat} {x1 : Int32} {x2 : Int32} {s : ps_S} {Q : Option Value → ps_S → Prop} (h :
  (pm_in (ps_i s 1131 29) 16 = true →
    (pm_in (ps_i (ps_ua s 1144 (Int32.toNatClampNeg (ps_i s 1131 29)) x1) 1131 29) 16 = true →
      (pm_in (ps_i (ps_ua (ps_ua s 1144 (Int32.toNatClampNeg (ps_i s 1131 29)) x1) 1145 (Int32.toNatClampNeg (ps_i (ps_ua s 1144 (Int32.toNatClampNeg (ps_i s 1131 29)) x1) 1131 29)) (x2 &&& 1)) 1131 29) 16 = true →
        (pm_in (ps_i (ps_ua (ps_ua (ps_ua s 1144 (Int32.toNatClampNeg (ps_i s 1131 29)) x1) 1145 (Int32.toNatClampNeg (ps_i (ps_ua s 1144 (Int32.toNatClampNeg (ps_i s 1131 29)) x1) 1131 29)) (x2 &&& 1)) 1146 (Int32.toNatClampNeg (ps_i (ps_ua (ps_ua s 1144 (Int32.toNatClampNeg (ps_i s 1131 29)) x1) 1145 (Int32.toNatClampNeg (ps_i (ps_ua s 1144 (Int32.toNatClampNeg (ps_i s 1131 29)) x1) 1131 29)) (x2 &&& 1)) 1131 29)) ((0 : Int32) &&& 1)) 1131 29) 16 = true →
          Q none (ps_ui (ps_ua (ps_ua (ps_ua (ps_ua s 1144 (Int32.toNatClampNeg (ps_i s 1131 29)) x1) 1145 (Int32.toNatClampNeg (ps_i (ps_ua s 1144 (Int32.toNatClampNeg (ps_i s 1131 29)) x1) 1131 29)) (x2 &&& 1)) 1146 (Int32.toNatClampNeg (ps_i (ps_ua (ps_ua s 1144 (Int32.toNatClampNeg (ps_i s 1131 29)) x1) 1145 (Int32.toNatClampNeg (ps_i (ps_ua s 1144 (Int32.toNatClampNeg (ps_i s 1131 29)) x1) 1131 29)) (x2 &&& 1)) 1131 29)) ((0 : Int32) &&& 1)) 1147 (Int32.toNatClampNeg (ps_i (ps_ua (ps_ua (ps_ua s 1144 (Int32.toNatClampNeg (ps_i s 1131 29)) x1) 1145 (Int32.toNatClampNeg (ps_i (ps_ua s 1144 (Int32.toNatClampNeg (ps_i s 1131 29)) x1) 1131 29)) (x2 &&& 1)) 1146 (Int32.toNatClampNeg (ps_i (ps_ua (ps_ua s 1144 (Int32.toNatClampNeg (ps_i s 1131 29)) x1) 1145 (Int32.toNatClampNeg (ps_i (ps_ua s 1144 (Int32.toNatClampNeg (ps_i s 1131 29)) x1) 1131 29)) (x2 &&& 1)) 1131 29)) ((0 : Int32) &&& 1)) 1131 29)) ((0 : Int32) &&& 1)) 1131 29 ((ps_i (ps_ua (ps_ua (ps_ua (ps_ua s 1144 (Int32.toNatClampNeg (ps_i s 1131 29)) x1) 1145 (Int32.toNatClampNeg (ps_i (ps_ua s 1144 (Int32.toNatClampNeg (ps_i s 1131 29)) x1) 1131 29)) (x2 &&& 1)) 1146 (Int32.toNatClampNeg (ps_i (ps_ua (ps_ua s 1144 (Int32.toNatClampNeg (ps_i s 1131 29)) x1) 1145 (Int32.toNatClampNeg (ps_i (ps_ua s 1144 (Int32.toNatClampNeg (ps_i s 1131 29)) x1) 1131 29)) (x2 &&& 1)) 1131 29)) ((0 : Int32) &&& 1)) 1147 (Int32.toNatClampNeg (ps_i (ps_ua (ps_ua (ps_ua s 1144 (Int32.toNatClampNeg (ps_i s 1131 29)) x1) 1145 (Int32.toNatClampNeg (ps_i (ps_ua s 1144 (Int32.toNatClampNeg (ps_i s 1131 29)) x1) 1131 29)) (x2 &&& 1)) 1146 (Int32.toNatClampNeg (ps_i (ps_ua (ps_ua s 1144 (Int32.toNatClampNeg (ps_i s 1131 29)) x1) 1145 (Int32.toNatClampNeg (ps_i (ps_ua s 1144 (Int32.toNatClampNeg (ps_i s 1131 29)) x1) 1131 29)) (x2 &&& 1)) 1131 29)) ((0 : Int32) &&& 1)) 1131 29)) ((0 : Int32) &&& 1)) 1131 29) + 1))))))) : pl_At (n + 1) 211 0 [(0, .ref 1131), (1, .int x1), (2, .int x2)] [] s Q :=
  pl_wp_at (stops := []) (f := 33) h rfl

-- ProofBenchModel.endsParts(I)Z
theorem pl_212_0 {n : Nat} {x1 : Int32} {s : ps_S} {Q : Option Value → ps_S → Prop} (h :
  ((ps_i s 1131 29) ≤ 0 →
    pl_At n 212 74 [(0, .ref 1131)] [] s Q) ∧
  (0 < (ps_i s 1131 29) →
    (pm_in ((ps_i s 1131 29) - 1) 16 = true →
      ((ps_a s 1144 (Int32.toNatClampNeg ((ps_i s 1131 29) - 1))) ≠ 0 →
        pl_At n 212 74 [(0, .ref 1131)] [] s Q) ∧
      ((ps_a s 1144 (Int32.toNatClampNeg ((ps_i s 1131 29) - 1))) = 0 →
        (pm_in (ps_i (ps_ui s 1131 29 ((ps_i s 1131 29) - 1)) 1131 29) 16 = true →
          ((ps_a (ps_ui s 1131 29 ((ps_i s 1131 29) - 1)) 1146 (Int32.toNatClampNeg (ps_i (ps_ui s 1131 29 ((ps_i s 1131 29) - 1)) 1131 29))) = 0 →
            pl_At n 212 49 [(0, .ref 1131), (1, .int x1)] [] (ps_ui s 1131 29 ((ps_i s 1131 29) - 1)) Q) ∧
          ((ps_a (ps_ui s 1131 29 ((ps_i s 1131 29) - 1)) 1146 (Int32.toNatClampNeg (ps_i (ps_ui s 1131 29 ((ps_i s 1131 29) - 1)) 1131 29))) ≠ 0 →
            pl_Cl n 210 [.ref 1131, .int x1, .int 0] (ps_ui s 1131 29 ((ps_i s 1131 29) - 1)) (ps_rV (fun s1 =>
              pl_At n 212 49 [(0, .ref 1131), (1, .int x1)] [] s1 Q)))))))) : pl_At (n + 1) 212 0 [(0, .ref 1131), (1, .int x1)] [] s Q :=
  pl_wp_at (stops := [(0, [0, 1]), (49, [0, 1]), (74, [0])]) (f := 29) h rfl

theorem pl_212_49 {n : Nat} {x1 : Int32} {s : ps_S} {Q : Option Value → ps_S → Prop} (h :
  (pm_in (ps_i s 1131 29) 16 = true →
    ((ps_a s 1147 (Int32.toNatClampNeg (ps_i s 1131 29))) = 0 →
      pl_At n 212 0 [(0, .ref 1131), (1, .int x1)] [] s Q) ∧
    ((ps_a s 1147 (Int32.toNatClampNeg (ps_i s 1131 29))) ≠ 0 →
      pl_At n 212 0 [(0, .ref 1131), (1, .int x1)] [] (ps_ui s 1131 30 ((ps_i s 1131 30) - 1)) Q))) : pl_At (n + 1) 212 49 [(0, .ref 1131), (1, .int x1)] [] s Q :=
  pl_wp_at (stops := [(0, [0, 1]), (49, [0, 1]), (74, [0])]) (f := 15) h rfl

theorem pl_212_74 {n : Nat} {s : ps_S} {Q : Option Value → ps_S → Prop} (h :
  ((ps_i s 1131 29) ≠ 0 →
    (pm_in ((ps_i s 1131 29) - 1) 16 = true →
      (pm_in ((ps_i s 1131 29) - 1) 16 = true →
        Q (some (.int 1)) (ps_ua s 1144 (Int32.toNatClampNeg ((ps_i s 1131 29) - 1)) ((ps_a s 1144 (Int32.toNatClampNeg ((ps_i s 1131 29) - 1))) - 1))))) ∧
  ((ps_i s 1131 29) = 0 →
    Q (some (.int 0)) s)) : pl_At (n + 1) 212 74 [(0, .ref 1131)] [] s Q :=
  pl_wp_at (stops := [(0, [0, 1]), (49, [0, 1]), (74, [0])]) (f := 20) h rfl

-- ProofBenchModel.pieceHere()I
theorem pl_213_0 {n : Nat} {s : ps_S} {Q : Option Value → ps_S → Prop} (h :
  pl_Cl n 195 [.ref 1131, .long (439721161573 : Int64)] s (ps_rI (fun v1 s1 =>
    (v1 = 0 →
      pl_Cl n 195 [.ref 1131, .long (6385252 : Int64)] s1 (ps_rI (fun v2 s2 =>
        (v2 = 0 →
          pl_Cl n 195 [.ref 1131, .long (28530 : Int64)] s2 (ps_rI (fun v3 s3 =>
            (v3 = 0 →
              pl_Cl n 195 [.ref 1131, .long (6909296 : Int64)] s3 (ps_rI (fun v4 s4 =>
                (v4 ≠ 0 →
                  Q (some (.int 3)) s4) ∧
                (v4 = 0 →
                  pl_Cl n 195 [.ref 1131, .long (7237492 : Int64)] s4 (ps_rI (fun v5 s5 =>
                    (v5 = 0 →
                      pl_Cl n 195 [.ref 1131, .long (6384748 : Int64)] s5 (ps_rI (fun v6 s6 =>
                        (v6 = 0 →
                          pl_Cl n 195 [.ref 1131, .long (1936682341 : Int64)] s6 (ps_rI (fun v7 s7 =>
                            (v7 = 0 →
                              pl_Cl n 195 [.ref 1131, .long (1935764837 : Int64)] s7 (ps_rI (fun v8 s8 =>
                                (v8 = 0 →
                                  pl_Cl n 206 [.ref 1131] s8 (ps_rI (fun v9 s9 =>
                                    (0 ≤ v9 →
                                      pl_Cl n 206 [.ref 1131] s9 (ps_rI (fun v10 s10 =>
                                        Q (some (.int ((10 : Int32) + v10))) s10))) ∧
                                    (v9 < 0 →
                                      Q (some (.int (-1))) s9)))) ∧
                                (v8 ≠ 0 →
                                  Q (some (.int 6)) s8)))) ∧
                            (v7 ≠ 0 →
                              Q (some (.int 5)) s7)))) ∧
                        (v6 ≠ 0 →
                          Q (some (.int 4)) s6)))) ∧
                    (v5 ≠ 0 →
                      Q (some (.int 3)) s5))))))) ∧
            (v3 ≠ 0 →
              Q (some (.int 2)) s3)))) ∧
        (v2 ≠ 0 →
          Q (some (.int 1)) s2)))) ∧
    (v1 ≠ 0 →
      Q (some (.int 0)) s1)))) : pl_At (n + 1) 213 0 [(0, .ref 1131)] [] s Q :=
  pl_wp_at (stops := []) (f := 61) h rfl

-- ProofBenchModel.freeHere()I
theorem pl_217_0 {n : Nat} {s : ps_S} {Q : Option Value → ps_S → Prop} (h :
  pl_At n 217 2 [(0, .ref 1131), (1, .int 0)] [] s Q) : pl_At (n + 1) 217 0 [(0, .ref 1131)] [] s Q :=
  pl_wp_at (stops := [(2, [0, 1])]) (f := 4) h rfl

theorem pl_217_2 {n : Nat} {x1 : Int32} {s : ps_S} {Q : Option Value → ps_S → Prop} (h :
  ((ps_i s 1131 23) ≤ x1 →
    ((ps_i s 1131 23) ≠ 12 →
      (pm_in (ps_i s 1131 23) 12 = true →
        Q (some (.int ((ps_i (ps_ui (ps_ub s 1143 (Int32.toNatClampNeg (ps_i s 1131 23)) (ps_j s 1131 11)) 1131 23 ((ps_i (ps_ub s 1143 (Int32.toNatClampNeg (ps_i s 1131 23)) (ps_j s 1131 11)) 1131 23) + 1)) 1131 23) - 1))) (ps_ui (ps_ub s 1143 (Int32.toNatClampNeg (ps_i s 1131 23)) (ps_j s 1131 11)) 1131 23 ((ps_i (ps_ub s 1143 (Int32.toNatClampNeg (ps_i s 1131 23)) (ps_j s 1131 11)) 1131 23) + 1)))) ∧
    ((ps_i s 1131 23) = 12 →
      pl_Cl n 196 [.ref 1131] s (ps_rV (fun s1 =>
        Q (some (.int 0)) s1)))) ∧
  (x1 < (ps_i s 1131 23) →
    (pm_in x1 12 = true →
      ((lg_cmp (ps_b s 1143 (Int32.toNatClampNeg x1)) (ps_j s 1131 11)) ≠ 0 →
        pl_At n 217 2 [(0, .ref 1131), (1, .int (x1 + 1))] [] s Q) ∧
      ((lg_cmp (ps_b s 1143 (Int32.toNatClampNeg x1)) (ps_j s 1131 11)) = 0 →
        Q (some (.int x1)) s)))) : pl_At (n + 1) 217 2 [(0, .ref 1131), (1, .int x1)] [] s Q :=
  pl_wp_at (stops := [(2, [0, 1])]) (f := 44) h rfl

-- ProofBenchModel.xHere()I
theorem pl_216_0 {n : Nat} {s : ps_S} {Q : Option Value → ps_S → Prop} (h :
  pl_At n 216 9 [(0, .ref 1131), (1, .int 0), (2, .int ((ps_i s 1131 29) - 1))] [] s Q) : pl_At (n + 1) 216 0 [(0, .ref 1131)] [] s Q :=
  pl_wp_at (stops := [(9, [0, 1, 2])]) (f := 9) h rfl

theorem pl_216_9 {n : Nat} {x1 : Int32} {x2 : Int32} {s : ps_S} {Q : Option Value → ps_S → Prop} (h :
  (x2 < 0 →
    ((ps_i s 1131 32) = 0 →
      pl_Cl n 217 [.ref 1131] s (ps_rI (fun v1 s1 =>
        Q (some (.int ((60 : Int32) + v1))) s1))) ∧
    ((ps_i s 1131 32) ≠ 0 →
      pl_Cl n 191 [.ref 1131, .int 5, .int (ps_i s 1131 7)] s (ps_rV (fun s2 =>
        Q (some (.int 0)) s2)))) ∧
  (0 ≤ x2 →
    (pm_in x2 16 = true →
      ((ps_a s 1147 (Int32.toNatClampNeg x2)) ≠ 0 →
        (pm_in x2 16 = true →
          ((lg_cmp (ps_b s 1148 (Int32.toNatClampNeg x2)) (ps_j s 1131 11)) ≠ 0 →
            pl_At n 216 9 [(0, .ref 1131), (1, .int (x1 + 1)), (2, .int (x2 + (-1)))] [] s Q) ∧
          ((lg_cmp (ps_b s 1148 (Int32.toNatClampNeg x2)) (ps_j s 1131 11)) = 0 →
            Q (some (.int ((40 : Int32) + x1))) s))) ∧
      ((ps_a s 1147 (Int32.toNatClampNeg x2)) = 0 →
        pl_At n 216 9 [(0, .ref 1131), (1, .int x1), (2, .int (x2 + (-1)))] [] s Q)))) : pl_At (n + 1) 216 9 [(0, .ref 1131), (1, .int x1), (2, .int x2)] [] s Q :=
  pl_wp_at (stops := [(9, [0, 1, 2])]) (f := 42) h rfl

theorem fm_191 {n : Nat} {x1 x2 : Int32} {s : ps_S} {R : ps_S → Prop} (h5 : (ps_i s 1131 5).toInt = 0) (k : R (ps_ui (ps_ui s 1131 5 x1) 1131 6 x2)) : pl_Cl n 191 [.ref 1131, .int x1, .int x2] s (ps_rV R) := by
  cases n with
  | zero => exact pl_At_0
  | succ n =>
  show pl_At (n + 1) 191 0 [(0, .ref 1131), (1, .int x1), (2, .int x2)] [] s (ps_rV R)
  refine pl_191_0 ?_
  refine ⟨fun h4 => ?_, fun h4 => ?_⟩
  · have h4 : (ps_i s 1131 5).toInt ≤ (0 : Int) := xle h4
    exact k
  · have h4 : (0 : Int) < (ps_i s 1131 5).toInt := xlt h4
    exfalso; omega
theorem fm_192 {n : Nat} {s : ps_S} {R : Int32 → ps_S → Prop} (k1 : (ps_i s 1131 5).toInt = 0 → R 1 s) (k0 : (ps_i s 1131 5).toInt ≠ 0 → R 0 s) : pl_Cl n 192 [.ref 1131] s (ps_rI R) := by
  cases n with
  | zero => exact pl_At_0
  | succ n =>
  show pl_At (n + 1) 192 0 [(0, .ref 1131)] [] s (ps_rI R)
  refine pl_192_0 ?_
  refine ⟨fun h4 => ?_, fun h4 => ?_⟩
  · have h4 : (ps_i s 1131 5).toInt ≠ (0 : Int) := xne h4
    exact k0 (by omega)
  · have h4 : (ps_i s 1131 5).toInt = (0 : Int) := xeq h4
    exact k1 (by omega)
theorem fm_196 {n : Nat} {s : ps_S} {tk : tx_K} {R : ps_S → Prop} (h5 : (ps_i s 1131 5).toInt = 0) (hK : mv_K s tk) (k : ∀ s', (ps_i s' 1131 5).toInt = (tx_bk tk : Nat) ∧ (ps_i s' 1131 6).toInt = tk.2.1 ∧ kq [] [5, 6] s s' → R s') : pl_Cl n 196 [.ref 1131] s (ps_rV R) := by
  cases n with
  | zero => exact pl_At_0
  | succ n =>
  show pl_At (n + 1) 196 0 [(0, .ref 1131)] [] s (ps_rV R)
  have h9 := hK.1
  refine pl_196_0 ?_
  refine ⟨fun h6 => ?_, fun h6 => ?_⟩
  · have h6 : (ps_i s 1131 9).toInt ≠ (1 : Int) := xne h6
    refine fm_191 h5 ?_
    refine k _ ⟨?_, hK.2.1, kqi (kqi kq_refl rfl) rfl⟩
    unfold tx_bk
    rw [if_neg (by omega)]
    rfl
  · have h6 : (ps_i s 1131 9).toInt = (1 : Int) := xeq h6
    refine fm_191 h5 ?_
    refine k _ ⟨?_, hK.2.1, kqi (kqi kq_refl rfl) rfl⟩
    unfold tx_bk
    rw [if_pos (by omega)]
    rfl

theorem fm_195 {n : Nat} {s : ps_S} {T : Nat → Nat} {N p q : Nat} {w : List Nat} {l1 : Int64} {R : Int32 → ps_S → Prop} (hK : mv_K s (tx_tok T N p)) (hq : tx_at tx_keys w = some q) (hl : tx_m w = l1) (k1 : ((tx_tok T N p).1 = 3 ∧ (tx_tok T N p).2.2.2.2 = q) → R 1 s) (k0 : ¬ ((tx_tok T N p).1 = 3 ∧ (tx_tok T N p).2.2.2.2 = q) → R 0 s) : pl_Cl n 195 [.ref 1131, .long l1] s (ps_rI R) := by
  cases n with
  | zero => exact pl_At_0
  | succ n =>
  show pl_At (n + 1) 195 0 [(0, .ref 1131), (1, .long l1)] [] s (ps_rI R)
  have h9 := hK.1
  have hww : tx_w w := tx_keys_w w (List.mem_of_getElem? (tx_ix_some hq).2.2.1)
  refine pl_195_0 ?_
  refine ⟨fun h5 => ?_, fun h5 => ?_⟩
  · have h5 : (ps_i s 1131 9).toInt ≠ (3 : Int) := xne h5
    exact k0 (fun z => by omega)
  · have h5 : (ps_i s 1131 9).toInt = (3 : Int) := xeq h5
    refine ⟨fun h14 => ?_, fun h14 => ?_⟩
    · have h14 := lg_nz h14
      refine k0 (fun z => ?_)
      obtain ⟨z1, z2⟩ := (tx_tok_key (T := T) (n := N) (p := p)).1 z.1
      apply h14
      rw [hK.2.2.2.1 (Or.inr z.1), ← hl]
      rw [z.2] at z1
      obtain ⟨-, -, a3, -⟩ := tx_ix_some z1
      obtain ⟨-, -, b3, -⟩ := tx_ix_some hq
      rw [a3] at b3
      rw [Option.some.inj b3]
    · have h14 := lg_z h14
      have h3 : (tx_tok T N p).1 = 3 := by omega
      obtain ⟨z1, z2⟩ := (tx_tok_key (T := T) (n := N) (p := p)).1 h3
      rw [hK.2.2.2.1 (Or.inr h3), ← hl] at h14
      rw [tx_m_inj z2 hww h14, hq] at z1
      exact k1 ⟨h3, (Option.some.inj z1).symm⟩

theorem fm_206_2 {rb : Nat} {s : ps_S} {T : Nat → Nat} {N : Nat} {E : tx_E} {p : Nat} {R : Int32 → ps_S → Prop} (hrb : rb < 2) (h22 : (ps_i s 1131 22).toInt = rb) (hE : mv_E s rb E.1) (hp : p ≤ N) (hK : mv_K s (tx_tok T N p)) (k : ∀ v : Int32, tx_opt (if (tx_tok T N p).1 = 2 then tx_at (E.1.1.map Prod.fst) (tx_tok T N p).2.2.2.1 else none) v → R v s) : ∀ (n : Nat) {x1 : Int32} {i : Nat}, x1.toInt = i → i ≤ (E.1.1.map Prod.fst).length → ((tx_tok T N p).1 = 2 → ∀ j, j < i → (E.1.1.map Prod.fst)[j]? ≠ some (tx_tok T N p).2.2.2.1) → pl_At n 206 2 [(0, .ref 1131), (1, .int x1)] [] s (ps_rI R)
  | 0, _, _, _, _, _ => pl_At_0
  | n + 1, x1, i, hx, hi, hj => by
    have h9 := hK.1
    have hwv := (tx_tok_ok (T := T) hp).2.2.2.1
    have hlen : (E.1.1.map Prod.fst).length = E.1.1.length := List.length_map ..
    have hcnt := hE.1
    have hmx := hE.2.2.1
    have c0 : (6 : Int32).toInt = 6 := by decide
    have e0 : (((6 : Int32) * (ps_i s 1131 22))).toInt = 6 * rb := by rw [xm01 h22 hrb, c0]
    have e1 : (((6 : Int32) * (ps_i s 1131 22)) + x1).toInt = (6 * rb + i : Nat) := by rw [xIa (by omega) (by omega)]; omega
    refine pl_206_2 ?_
    intro b11
    obtain ⟨b11, c11⟩ := pl_in b11
    rw [xtn h22]
    refine ⟨fun h12 => ?_, fun h12 => ?_⟩
    · have h12 : (ps_a s 1135 rb).toInt ≤ x1.toInt := xle h12
      refine k _ ⟨fun c hc => ?_, fun _ => rfl⟩
      split at hc
      · next z =>
        rw [tx_at_no (fun j hjl => hj z j (by omega))] at hc
        cases hc
      · cases hc
    · have h12 : x1.toInt < (ps_a s 1135 rb).toInt := xlt h12
      refine ⟨fun h20 => ?_, fun h20 => ?_⟩
      · have h20 : (ps_i s 1131 9).toInt ≠ (2 : Int) := xne h20
        exact fm_206_2 hrb h22 hE hp hK k n (xj1 hx (by omega)) (by omega) (fun z => by omega)
      · have h20 : (ps_i s 1131 9).toInt = (2 : Int) := xeq h20
        intro b36
        obtain ⟨b36, c36⟩ := pl_in b36
        have h2 : (tx_tok T N p).1 = 2 := by omega
        obtain ⟨w0, hg1⟩ : ∃ w0, (E.1.1.map Prod.fst)[i]? = some w0 := ⟨(E.1.1.map Prod.fst)[i]'(by omega), List.getElem?_eq_getElem _⟩
        obtain ⟨hg2, hg3⟩ := mv_E_rel hE i w0 hg1
        refine ⟨fun h42 => ?_, fun h42 => ?_⟩
        · have h42 := lg_nz h42
          refine fm_206_2 hrb h22 hE hp hK k n (xj1 hx (by omega)) (by omega) (fun _ j hjl => ?_)
          by_cases ej : j = i
          · rw [ej, hg1]
            intro z
            cases z
            exact h42 (by rw [xtn e1, hg3, hK.2.2.2.1 (Or.inl h2)])
          · exact hj h2 j (by omega)
        · have h42 := lg_z h42
          rw [xtn e1, hg3, hK.2.2.2.1 (Or.inl h2)] at h42
          have e := tx_at_is (by rw [hg1, tx_m_inj hg2 (hwv h2) h42]) (hj h2)
          refine k _ ⟨fun c hc => ?_, fun hc => ?_⟩
          · rw [if_pos h2, e] at hc
            cases hc
            exact hx
          · rw [if_pos h2, e] at hc
            cases hc
theorem fm_206 {n : Nat} {rb : Nat} {s : ps_S} {T : Nat → Nat} {N : Nat} {E : tx_E} {p : Nat} {R : Int32 → ps_S → Prop} (hrb : rb < 2) (h22 : (ps_i s 1131 22).toInt = rb) (hE : mv_E s rb E.1) (hp : p ≤ N) (hK : mv_K s (tx_tok T N p)) (k : ∀ v : Int32, tx_opt (if (tx_tok T N p).1 = 2 then tx_at (E.1.1.map Prod.fst) (tx_tok T N p).2.2.2.1 else none) v → R v s) : pl_Cl n 206 [.ref 1131] s (ps_rI R) := by
  cases n with
  | zero => exact pl_At_0
  | succ n =>
  show pl_At (n + 1) 206 0 [(0, .ref 1131)] [] s (ps_rI R)
  refine pl_206_0 ?_
  exact fm_206_2 hrb h22 hE hp hK k n (i := 0) rfl (Nat.zero_le _) (fun _ j hj => by omega)

theorem fm_207_2 {rb : Nat} {s : ps_S} {T : Nat → Nat} {N : Nat} {E : tx_E} {p : Nat} {R : Int32 → ps_S → Prop} (hrb : rb < 2) (h22 : (ps_i s 1131 22).toInt = rb) (hE : mv_E s rb E.1) (hp : p ≤ N) (hK : mv_K s (tx_tok T N p)) (k : ∀ v : Int32, tx_opt (if (tx_tok T N p).1 = 2 then tx_at (E.1.2.map Prod.fst) (tx_tok T N p).2.2.2.1 else none) v → R v s) : ∀ (n : Nat) {x1 : Int32} {i : Nat}, x1.toInt = i → i ≤ (E.1.2.map Prod.fst).length → ((tx_tok T N p).1 = 2 → ∀ j, j < i → (E.1.2.map Prod.fst)[j]? ≠ some (tx_tok T N p).2.2.2.1) → pl_At n 207 2 [(0, .ref 1131), (1, .int x1)] [] s (ps_rI R)
  | 0, _, _, _, _, _ => pl_At_0
  | n + 1, x1, i, hx, hi, hj => by
    have h9 := hK.1
    have hwv := (tx_tok_ok (T := T) hp).2.2.2.1
    have hlen : (E.1.2.map Prod.fst).length = E.1.2.length := List.length_map ..
    have hcnt := hE.2.1
    have hmx := hE.2.2.2.1
    have c0 : (4 : Int32).toInt = 4 := by decide
    have e0 : (((4 : Int32) * (ps_i s 1131 22))).toInt = 4 * rb := by rw [xm01 h22 hrb, c0]
    have e1 : (((4 : Int32) * (ps_i s 1131 22)) + x1).toInt = (4 * rb + i : Nat) := by rw [xIa (by omega) (by omega)]; omega
    refine pl_207_2 ?_
    intro b11
    obtain ⟨b11, c11⟩ := pl_in b11
    rw [xtn h22]
    refine ⟨fun h12 => ?_, fun h12 => ?_⟩
    · have h12 : (ps_a s 1136 rb).toInt ≤ x1.toInt := xle h12
      refine k _ ⟨fun c hc => ?_, fun _ => rfl⟩
      split at hc
      · next z =>
        rw [tx_at_no (fun j hjl => hj z j (by omega))] at hc
        cases hc
      · cases hc
    · have h12 : x1.toInt < (ps_a s 1136 rb).toInt := xlt h12
      refine ⟨fun h20 => ?_, fun h20 => ?_⟩
      · have h20 : (ps_i s 1131 9).toInt ≠ (2 : Int) := xne h20
        exact fm_207_2 hrb h22 hE hp hK k n (xj1 hx (by omega)) (by omega) (fun z => by omega)
      · have h20 : (ps_i s 1131 9).toInt = (2 : Int) := xeq h20
        intro b35
        obtain ⟨b35, c35⟩ := pl_in b35
        have h2 : (tx_tok T N p).1 = 2 := by omega
        obtain ⟨w0, hg1⟩ : ∃ w0, (E.1.2.map Prod.fst)[i]? = some w0 := ⟨(E.1.2.map Prod.fst)[i]'(by omega), List.getElem?_eq_getElem _⟩
        obtain ⟨hg2, hg3⟩ := mv_E_fun hE i w0 hg1
        refine ⟨fun h41 => ?_, fun h41 => ?_⟩
        · have h41 := lg_nz h41
          refine fm_207_2 hrb h22 hE hp hK k n (xj1 hx (by omega)) (by omega) (fun _ j hjl => ?_)
          by_cases ej : j = i
          · rw [ej, hg1]
            intro z
            cases z
            exact h41 (by rw [xtn e1, hg3, hK.2.2.2.1 (Or.inl h2)])
          · exact hj h2 j (by omega)
        · have h41 := lg_z h41
          rw [xtn e1, hg3, hK.2.2.2.1 (Or.inl h2)] at h41
          have e := tx_at_is (by rw [hg1, tx_m_inj hg2 (hwv h2) h41]) (hj h2)
          refine k _ ⟨fun c hc => ?_, fun hc => ?_⟩
          · rw [if_pos h2, e] at hc
            cases hc
            exact hx
          · rw [if_pos h2, e] at hc
            cases hc
theorem fm_207 {n : Nat} {rb : Nat} {s : ps_S} {T : Nat → Nat} {N : Nat} {E : tx_E} {p : Nat} {R : Int32 → ps_S → Prop} (hrb : rb < 2) (h22 : (ps_i s 1131 22).toInt = rb) (hE : mv_E s rb E.1) (hp : p ≤ N) (hK : mv_K s (tx_tok T N p)) (k : ∀ v : Int32, tx_opt (if (tx_tok T N p).1 = 2 then tx_at (E.1.2.map Prod.fst) (tx_tok T N p).2.2.2.1 else none) v → R v s) : pl_Cl n 207 [.ref 1131] s (ps_rI R) := by
  cases n with
  | zero => exact pl_At_0
  | succ n =>
  show pl_At (n + 1) 207 0 [(0, .ref 1131)] [] s (ps_rI R)
  refine pl_207_0 ?_
  exact fm_207_2 hrb h22 hE hp hK k n (i := 0) rfl (Nat.zero_le _) (fun _ j hj => by omega)

