set_option maxRecDepth 100000
/-! the class: models gone through; what was found once is kept -/
-- ProofBench$Judge.setDigits(I)V
theorem pl_8_0 {n : Nat} {x1 : Int32} {s : ps_S} {Q : Option Value → ps_S → Prop} (h :
  pl_At n 8 9 [(0, .ref 944), (2, .int x1), (3, .int ((ps_i s 944 2) - 1))] [] s Q) : pl_At (n + 1) 8 0 [(0, .ref 944), (1, .int x1)] [] s Q :=
  pl_wp_at (stops := [(9, [0, 2, 3])]) (f := 9) h rfl

theorem pl_8_9 {n : Nat} {x2 : Int32} {x3 : Int32} {s : ps_S} {Q : Option Value → ps_S → Prop} (h :
  (x3 < 0 →
    Q none s) ∧
  (0 ≤ x3 →
    pl_Cl n 182 [.ref 945, .int x3] s (ps_rI (fun v1 s1 =>
      (v1 ≤ 0 →
        pl_At n 8 9 [(0, .ref 944), (2, .int x2), (3, .int (x3 + (-1)))] [] s1 Q) ∧
      (0 < v1 →
        pl_nk (!decide (v1 = 0)) (pl_Cl n 183 [.ref 946, .int x3, .int (x2 - (x2 / v1) * v1)] s1 (ps_rV (fun s2 =>
          pl_nk (!decide (v1 = 0)) (pl_At n 8 9 [(0, .ref 944), (2, .int (x2 / v1)), (3, .int (x3 + (-1)))] [] s2 Q))))))))) : pl_At (n + 1) 8 9 [(0, .ref 944), (2, .int x2), (3, .int x3)] [] s Q :=
  pl_wp_at (stops := [(9, [0, 2, 3])]) (f := 27) h rfl

-- ProofBench$Judge.measureAxioms()V
theorem pl_9_0 {n : Nat} {s : ps_S} {Q : Option Value → ps_S → Prop} (h :
  pl_At n 9 2 [(0, .ref 944), (1, .int 0)] [] s Q) : pl_At (n + 1) 9 0 [(0, .ref 944)] [] s Q :=
  pl_wp_at (stops := [(2, [0, 1])]) (f := 4) h rfl

theorem pl_9_2 {n : Nat} {x1 : Int32} {s : ps_S} {Q : Option Value → ps_S → Prop} (h :
  pl_nk (ps_is (ps_r s 944 16) 9) (((ps_i s (ps_r s 944 16) 8) ≤ x1 →
    Q none s) ∧
  (x1 < (ps_i s (ps_r s 944 16) 8) →
    pl_Cl n 10 [.ref 944, .int x1] s (ps_rA (fun v1 s1 =>
      pl_Cl n 135 [.ref (ps_r s1 944 16), .int x1] s1 (ps_rA (fun v2 s2 =>
        pl_Cl n 103 [.ref v1, .ref v2, .ref (ps_r s2 944 16)] s2 (ps_rV (fun s3 =>
          pl_At n 9 2 [(0, .ref 944), (1, .int (x1 + 1))] [] s3 Q))))))))) : pl_At (n + 1) 9 2 [(0, .ref 944), (1, .int x1)] [] s Q :=
  pl_wp_at (stops := [(2, [0, 1])]) (f := 20) h rfl

-- ProofBench$Judge.shapeAt(I)LProofBench$Shape;
theorem pl_10_0 {n : Nat} {x1 : Int32} {s : ps_S} {Q : Option Value → ps_S → Prop} (h :
  (x1 < 0 →
    Q (some (.ref 950)) s) ∧
  (0 ≤ x1 →
    ((nI 8) ≤ x1 →
      Q (some (.ref 950)) s) ∧
    (x1 < (nI 8) →
      (pm_in x1 8 = true →
        Q (some (.ref (ps_e0 949 (Int32.toNatClampNeg x1)))) s)))) : pl_At (n + 1) 10 0 [(0, .ref 944), (1, .int x1)] [] s Q :=
  pl_wp_at (stops := []) (f := 21) h rfl

-- ProofBench$Judge.isGood(I)Z
theorem pl_11_0 {n : Nat} {x1 : Int32} {s : ps_S} {Q : Option Value → ps_S → Prop} (h :
  (((((ps_i s 944 11) - 1) * 64) + (x1 / 64)) < 0 →
    Q (some (.int 0)) s) ∧
  (0 ≤ ((((ps_i s 944 11) - 1) * 64) + (x1 / 64)) →
    ((nI 192) ≤ ((((ps_i s 944 11) - 1) * 64) + (x1 / 64)) →
      Q (some (.int 0)) s) ∧
    (((((ps_i s 944 11) - 1) * 64) + (x1 / 64)) < (nI 192) →
      (((((ps_i s 944 11) - 1) * 64) + (x1 / 64)) < (nI 192) →
        (pm_in ((((ps_i s 944 11) - 1) * 64) + (x1 / 64)) 192 = true →
          ((lg_cmp ((ps_b s 957 (Int32.toNatClampNeg ((((ps_i s 944 11) - 1) * 64) + (x1 / 64)))) &&& ((1 : Int64) <<< (Int32.toInt64 (x1 - (x1 / 64) * 64) &&& 63))) 0) ≠ 0 →
            pl_At n 11 106 [(0, .ref 944), (2, .int ((((ps_i s 944 11) - 1) * 64) + (x1 / 64))), (3, .long ((1 : Int64) <<< (Int32.toInt64 (x1 - (x1 / 64) * 64) &&& 63)))] [] s Q) ∧
          ((lg_cmp ((ps_b s 957 (Int32.toNatClampNeg ((((ps_i s 944 11) - 1) * 64) + (x1 / 64)))) &&& ((1 : Int64) <<< (Int32.toInt64 (x1 - (x1 / 64) * 64) &&& 63))) 0) = 0 →
            (pm_in ((((ps_i s 944 11) - 1) * 64) + (x1 / 64)) 192 = true →
              (pm_in ((((ps_i s 944 11) - 1) * 64) + (x1 / 64)) 192 = true →
                pl_Cl n 12 [.ref 944, .int x1] (ps_ub s 957 (Int32.toNatClampNeg ((((ps_i s 944 11) - 1) * 64) + (x1 / 64))) ((ps_b s 957 (Int32.toNatClampNeg ((((ps_i s 944 11) - 1) * 64) + (x1 / 64)))) ||| ((1 : Int64) <<< (Int32.toInt64 (x1 - (x1 / 64) * 64) &&& 63)))) (ps_rI (fun v1 s1 =>
                  (v1 = 0 →
                    (pm_in ((((ps_i s 944 11) - 1) * 64) + (x1 / 64)) 192 = true →
                      (pm_in ((((ps_i s 944 11) - 1) * 64) + (x1 / 64)) 192 = true →
                        pl_At n 11 106 [(0, .ref 944), (2, .int ((((ps_i s 944 11) - 1) * 64) + (x1 / 64))), (3, .long ((1 : Int64) <<< (Int32.toInt64 (x1 - (x1 / 64) * 64) &&& 63)))] [] (ps_ub s1 958 (Int32.toNatClampNeg ((((ps_i s 944 11) - 1) * 64) + (x1 / 64))) ((ps_b s1 958 (Int32.toNatClampNeg ((((ps_i s 944 11) - 1) * 64) + (x1 / 64)))) &&& (((1 : Int64) <<< (Int32.toInt64 (x1 - (x1 / 64) * 64) &&& 63)) ^^^ (-1 : Int64)))) Q))) ∧
                  (v1 ≠ 0 →
                    (pm_in ((((ps_i s 944 11) - 1) * 64) + (x1 / 64)) 192 = true →
                      (pm_in ((((ps_i s 944 11) - 1) * 64) + (x1 / 64)) 192 = true →
                        pl_At n 11 106 [(0, .ref 944), (2, .int ((((ps_i s 944 11) - 1) * 64) + (x1 / 64))), (3, .long ((1 : Int64) <<< (Int32.toInt64 (x1 - (x1 / 64) * 64) &&& 63)))] [] (ps_ub s1 958 (Int32.toNatClampNeg ((((ps_i s 944 11) - 1) * 64) + (x1 / 64))) ((ps_b s1 958 (Int32.toNatClampNeg ((((ps_i s 944 11) - 1) * 64) + (x1 / 64)))) ||| ((1 : Int64) <<< (Int32.toInt64 (x1 - (x1 / 64) * 64) &&& 63)))) Q)))))))))) ∧
      ((nI 192) ≤ ((((ps_i s 944 11) - 1) * 64) + (x1 / 64)) →
        Q (some (.int 0)) s)))) : pl_At (n + 1) 11 0 [(0, .ref 944), (1, .int x1)] [] s Q :=
  pl_wp_at (stops := [(106, [0, 2, 3])]) (f := 78) h rfl

theorem pl_11_106 {n : Nat} {x2 : Int32} {l3 : Int64} {s : ps_S} {Q : Option Value → ps_S → Prop} (h :
  (pm_in x2 192 = true →
    ((lg_cmp ((ps_b s 958 (Int32.toNatClampNeg x2)) &&& l3) 0) = 0 →
      Q (some (.int 0)) s) ∧
    ((lg_cmp ((ps_b s 958 (Int32.toNatClampNeg x2)) &&& l3) 0) ≠ 0 →
      Q (some (.int 1)) s))) : pl_At (n + 1) 11 106 [(0, .ref 944), (2, .int x2), (3, .long l3)] [] s Q :=
  pl_wp_at (stops := [(106, [0, 2, 3])]) (f := 16) h rfl

-- ProofBench$Judge.axiomsHold(I)Z
theorem pl_12_0 {n : Nat} {x1 : Int32} {s : ps_S} {Q : Option Value → ps_S → Prop} (h :
  pl_Cl n 8 [.ref 944, .int x1] s (ps_rV (fun s1 =>
    pl_At n 12 7 [(0, .ref 944), (2, .int 0)] [] s1 Q))) : pl_At (n + 1) 12 0 [(0, .ref 944), (1, .int x1)] [] s Q :=
  pl_wp_at (stops := [(7, [0, 2])]) (f := 7) h rfl

theorem pl_12_7 {n : Nat} {x2 : Int32} {s : ps_S} {Q : Option Value → ps_S → Prop} (h :
  pl_nk (ps_is (ps_r s 944 16) 9) (((ps_i s (ps_r s 944 16) 8) ≤ x2 →
    Q (some (.int 1)) s) ∧
  (x2 < (ps_i s (ps_r s 944 16) 8) →
    pl_Cl n 135 [.ref (ps_r s 944 16), .int x2] s (ps_rA (fun v1 s1 =>
      pl_Cl n 10 [.ref 944, .int x2] (ps_ur s1 944 14 v1) (ps_rA (fun v2 s2 =>
        pl_Cl n 15 [.ref 944, .int 0, .int 0, .int 0] (ps_ur s2 944 15 v2) (ps_rI (fun v3 s3 =>
          (v3 ≠ 0 →
            pl_At n 12 7 [(0, .ref 944), (2, .int (x2 + 1))] [] s3 Q) ∧
          (v3 = 0 →
            Q (some (.int 0)) s3)))))))))) : pl_At (n + 1) 12 7 [(0, .ref 944), (2, .int x2)] [] s Q :=
  pl_wp_at (stops := [(7, [0, 2])]) (f := 30) h rfl

-- ProofBench$Judge.findFree(LProofBench$Row;)V
theorem pl_13_0 {n : Nat} {r1 : Nat} {s : ps_S} {Q : Option Value → ps_S → Prop} (h :
  pl_At n 13 7 [(0, .ref 944), (1, .ref r1), (2, .int 0)] [] (ps_ui s 944 10 0) Q) : pl_At (n + 1) 13 0 [(0, .ref 944), (1, .ref r1)] [] s Q :=
  pl_wp_at (stops := [(7, [0, 1, 2])]) (f := 7) h rfl

theorem pl_13_7 {n : Nat} {r1 : Nat} {x2 : Int32} {s : ps_S} {Q : Option Value → ps_S → Prop} (h :
  (12 ≤ x2 →
    Q none s) ∧
  (x2 < 12 →
    pl_Cl n 100 [.ref r1, .int ((60 : Int32) + x2)] s (ps_rI (fun v1 s1 =>
      (v1 = 0 →
        pl_At n 13 7 [(0, .ref 944), (1, .ref r1), (2, .int (x2 + 1))] [] s1 Q) ∧
      (v1 ≠ 0 →
        pl_Cl n 183 [.ref 956, .int (ps_i s1 944 10), .int x2] s1 (ps_rV (fun s2 =>
          pl_At n 13 7 [(0, .ref 944), (1, .ref r1), (2, .int (x2 + 1))] [] (ps_ui s2 944 10 ((ps_i s2 944 10) + 1)) Q))))))) : pl_At (n + 1) 13 7 [(0, .ref 944), (1, .ref r1), (2, .int x2)] [] s Q :=
  pl_wp_at (stops := [(7, [0, 1, 2])]) (f := 28) h rfl

-- ProofBench$Judge.isSoForAll(LProofBench$Row;)Z
theorem pl_14_0 {n : Nat} {r1 : Nat} {s : ps_S} {Q : Option Value → ps_S → Prop} (h :
  pl_At n 14 17 [(0, .ref 944), (2, .int 1), (3, .int 0)] [] (ps_ur (ps_ur s 944 14 r1) 944 15 950) Q) : pl_At (n + 1) 14 0 [(0, .ref 944), (1, .ref r1)] [] s Q :=
  pl_wp_at (stops := [(17, [0, 2, 3]), (40, [0, 2, 3]), (51, [0, 2, 3, 4, 5]), (105, [0, 2, 3])]) (f := 13) h rfl

theorem pl_14_17 {n : Nat} {x2 : Int32} {x3 : Int32} {s : ps_S} {Q : Option Value → ps_S → Prop} (h :
  ((ps_i s 944 10) ≤ x3 →
    pl_At n 14 40 [(0, .ref 944), (2, .int x2), (3, .int 0)] [] s Q) ∧
  (x3 < (ps_i s 944 10) →
    pl_At n 14 17 [(0, .ref 944), (2, .int (x2 * (ps_i s 944 11))), (3, .int (x3 + 1))] [] s Q)) : pl_At (n + 1) 14 17 [(0, .ref 944), (2, .int x2), (3, .int x3)] [] s Q :=
  pl_wp_at (stops := [(17, [0, 2, 3]), (40, [0, 2, 3]), (51, [0, 2, 3, 4, 5]), (105, [0, 2, 3])]) (f := 15) h rfl

theorem pl_14_40 {n : Nat} {x2 : Int32} {x3 : Int32} {s : ps_S} {Q : Option Value → ps_S → Prop} (h :
  (x2 ≤ x3 →
    Q (some (.int 1)) s) ∧
  (x3 < x2 →
    pl_At n 14 51 [(0, .ref 944), (2, .int x2), (3, .int x3), (4, .int x3), (5, .int 0)] [] s Q)) : pl_At (n + 1) 14 40 [(0, .ref 944), (2, .int x2), (3, .int x3)] [] s Q :=
  pl_wp_at (stops := [(17, [0, 2, 3]), (40, [0, 2, 3]), (51, [0, 2, 3, 4, 5]), (105, [0, 2, 3])]) (f := 11) h rfl

theorem pl_14_51 {n : Nat} {x2 : Int32} {x3 : Int32} {x4 : Int32} {x5 : Int32} {s : ps_S} {Q : Option Value → ps_S → Prop} (h :
  ((ps_i s 944 10) ≤ x5 →
    pl_At n 14 105 [(0, .ref 944), (2, .int x2), (3, .int x3)] [] s Q) ∧
  (x5 < (ps_i s 944 10) →
    ((ps_i s 944 11) ≤ 0 →
      pl_At n 14 105 [(0, .ref 944), (2, .int x2), (3, .int x3)] [] s Q) ∧
    (0 < (ps_i s 944 11) →
      pl_Cl n 182 [.ref 956, .int x5] s (ps_rI (fun v1 s1 =>
        pl_nk (!decide ((ps_i s1 944 11) = 0)) (pl_Cl n 183 [.ref 955, .int v1, .int (x4 - (x4 / (ps_i s1 944 11)) * (ps_i s1 944 11))] s1 (ps_rV (fun s2 =>
          pl_nk (!decide ((ps_i s2 944 11) = 0)) (pl_At n 14 51 [(0, .ref 944), (2, .int x2), (3, .int x3), (4, .int (x4 / (ps_i s2 944 11))), (5, .int (x5 + 1))] [] s2 Q))))))))) : pl_At (n + 1) 14 51 [(0, .ref 944), (2, .int x2), (3, .int x3), (4, .int x4), (5, .int x5)] [] s Q :=
  pl_wp_at (stops := [(17, [0, 2, 3]), (40, [0, 2, 3]), (51, [0, 2, 3, 4, 5]), (105, [0, 2, 3])]) (f := 27) h rfl

theorem pl_14_105 {n : Nat} {x2 : Int32} {x3 : Int32} {s : ps_S} {Q : Option Value → ps_S → Prop} (h :
  pl_Cl n 15 [.ref 944, .int 0, .int 0, .int 0] s (ps_rI (fun v1 s1 =>
    (v1 ≠ 0 →
      pl_At n 14 40 [(0, .ref 944), (2, .int x2), (3, .int (x3 + 1))] [] s1 Q) ∧
    (v1 = 0 →
      Q (some (.int 0)) s1)))) : pl_At (n + 1) 14 105 [(0, .ref 944), (2, .int x2), (3, .int x3)] [] s Q :=
  pl_wp_at (stops := [(17, [0, 2, 3]), (40, [0, 2, 3]), (51, [0, 2, 3, 4, 5]), (105, [0, 2, 3])]) (f := 12) h rfl

-- ProofBench$Judge.goodModels(LProofBench$Theory;I)I
theorem pl_3_0 {n : Nat} {r1 : Nat} {x2 : Int32} {s : ps_S} {Q : Option Value → ps_S → Prop} (h :
  pl_Cl n 2 [.ref 944, .ref r1, .int x2] s (ps_rI (fun v1 s1 =>
    pl_Cl n 9 [.ref 944] s1 (ps_rV (fun s2 =>
      pl_At n 3 17 [(0, .ref 944), (3, .int v1), (4, .int 0), (5, .int 0)] [] s2 Q))))) : pl_At (n + 1) 3 0 [(0, .ref 944), (1, .ref r1), (2, .int x2)] [] s Q :=
  pl_wp_at (stops := [(17, [0, 3, 4, 5])]) (f := 13) h rfl

theorem pl_3_17 {n : Nat} {x3 : Int32} {x4 : Int32} {x5 : Int32} {s : ps_S} {Q : Option Value → ps_S → Prop} (h :
  (x3 ≤ x5 →
    (x3 ≠ (-2) →
      Q (some (.int x4)) s) ∧
    (x3 = (-2) →
      Q (some (.int (-2))) s)) ∧
  (x5 < x3 →
    pl_Cl n 11 [.ref 944, .int x5] s (ps_rI (fun v1 s1 =>
      (v1 = 0 →
        pl_At n 3 17 [(0, .ref 944), (3, .int x3), (4, .int x4), (5, .int (x5 + 1))] [] s1 Q) ∧
      (v1 ≠ 0 →
        pl_At n 3 17 [(0, .ref 944), (3, .int x3), (4, .int (x4 + 1)), (5, .int (x5 + 1))] [] s1 Q))))) : pl_At (n + 1) 3 17 [(0, .ref 944), (3, .int x3), (4, .int x4), (5, .int x5)] [] s Q :=
  pl_wp_at (stops := [(17, [0, 3, 4, 5])]) (f := 22) h rfl

-- ProofBench$Judge.firstAgainst(LProofBench$Theory;LProofBench$Row;I)I
theorem pl_5_0 {n : Nat} {r1 : Nat} {r2 : Nat} {x3 : Int32} {s : ps_S} {Q : Option Value → ps_S → Prop} (h :
  pl_Cl n 2 [.ref 944, .ref r1, .int x3] s (ps_rI (fun v1 s1 =>
    pl_Cl n 13 [.ref 944, .ref r2] s1 (ps_rV (fun s2 =>
      (v1 = (-2) →
        Q (some (.int (-2))) s2) ∧
      (v1 ≠ (-2) →
        ((ps_i s2 944 10) ≤ 4 →
          pl_Cl n 9 [.ref 944] s2 (ps_rV (fun s3 =>
            pl_Cl n 103 [.ref 950, .ref r2, .ref (ps_r s3 944 16)] s3 (ps_rV (fun s4 =>
              pl_At n 5 50 [(0, .ref 944), (2, .ref r2), (4, .int v1), (5, .int 0)] [] s4 Q))))) ∧
        (4 < (ps_i s2 944 10) →
          Q (some (.int (-2))) s2))))))) : pl_At (n + 1) 5 0 [(0, .ref 944), (1, .ref r1), (2, .ref r2), (3, .int x3)] [] s Q :=
  pl_wp_at (stops := [(50, [0, 2, 4, 5])]) (f := 31) h rfl

theorem pl_5_50 {n : Nat} {r2 : Nat} {x4 : Int32} {x5 : Int32} {s : ps_S} {Q : Option Value → ps_S → Prop} (h :
  (x4 ≤ x5 →
    Q (some (.int (-1))) s) ∧
  (x5 < x4 →
    pl_Cl n 11 [.ref 944, .int x5] s (ps_rI (fun v1 s1 =>
      (v1 = 0 →
        pl_At n 5 50 [(0, .ref 944), (2, .ref r2), (4, .int x4), (5, .int (x5 + 1))] [] s1 Q) ∧
      (v1 ≠ 0 →
        pl_Cl n 8 [.ref 944, .int x5] s1 (ps_rV (fun s2 =>
          pl_Cl n 14 [.ref 944, .ref r2] s2 (ps_rI (fun v3 s3 =>
            (v3 ≠ 0 →
              pl_At n 5 50 [(0, .ref 944), (2, .ref r2), (4, .int x4), (5, .int (x5 + 1))] [] s3 Q) ∧
            (v3 = 0 →
              Q (some (.int x5)) s3)))))))))) : pl_At (n + 1) 5 50 [(0, .ref 944), (2, .ref r2), (4, .int x4), (5, .int x5)] [] s Q :=
  pl_wp_at (stops := [(50, [0, 2, 4, 5])]) (f := 24) h rfl

-- ProofBench$Row.contains(I)Z
theorem pl_100_0 {n : Nat} {r0 : Nat} {x1 : Int32} {s : ps_S} {Q : Option Value → ps_S → Prop} (h :
  pl_At n 100 2 [(0, .ref r0), (1, .int x1), (2, .int 0)] [] s Q) : pl_At (n + 1) 100 0 [(0, .ref r0), (1, .int x1)] [] s Q :=
  pl_wp_at (stops := [(2, [0, 1, 2])]) (f := 4) h rfl

theorem pl_100_2 {n : Nat} {r0 : Nat} {x1 : Int32} {x2 : Int32} {s : ps_S} {Q : Option Value → ps_S → Prop} (h :
  pl_nk (ps_is r0 5) (((ps_i s r0 1) ≤ x2 →
    Q (some (.int 0)) s) ∧
  (x2 < (ps_i s r0 1) →
    pl_Cl n 92 [.ref r0, .int x2] s (ps_rI (fun v1 s1 =>
      (v1 ≠ x1 →
        pl_At n 100 2 [(0, .ref r0), (1, .int x1), (2, .int (x2 + 1))] [] s1 Q) ∧
      (v1 = x1 →
        Q (some (.int 1)) s1)))))) : pl_At (n + 1) 100 2 [(0, .ref r0), (1, .int x1), (2, .int x2)] [] s Q :=
  pl_wp_at (stops := [(2, [0, 1, 2])]) (f := 17) h rfl

-- ProofBench.hold(I)I
theorem pl_173_0 {n : Nat} {x1 : Int32} {s : ps_S} {Q : Option Value → ps_S → Prop} (h :
  pl_Cl n 181 [.int x1] s (ps_rI (fun v1 s1 =>
    (v1 = 0 →
      Q (some (.int (-1))) s1) ∧
    (v1 ≠ 0 →
      pl_Cl n 3 [.ref 944, .ref (ps_r s1 0 2), .int x1] s1 (ps_rI (fun v2 s2 =>
        Q (some (.int v2)) s2)))))) : pl_At (n + 1) 173 0 [(0, .ref 0), (1, .int x1)] [] s Q :=
  pl_wp_at (stops := []) (f := 15) h rfl

-- ProofBench.counter(I)I
theorem pl_175_0 {n : Nat} {x1 : Int32} {s : ps_S} {Q : Option Value → ps_S → Prop} (h :
  pl_Cl n 181 [.int x1] s (ps_rI (fun v1 s1 =>
    (v1 = 0 →
      Q (some (.int (-1))) s1) ∧
    (v1 ≠ 0 →
      ((ps_i s1 934 1) ≠ 0 →
        pl_Cl n 5 [.ref 944, .ref (ps_r s1 0 2), .ref 934, .int x1] s1 (ps_rI (fun v2 s2 =>
          Q (some (.int v2)) s2))) ∧
      ((ps_i s1 934 1) = 0 →
        Q (some (.int (-1))) s1))))) : pl_At (n + 1) 175 0 [(0, .ref 0), (1, .int x1)] [] s Q :=
  pl_wp_at (stops := []) (f := 22) h rfl

/-- what is left of a number behind the digits of l -/
def rst : List Nat → Nat → Nat
  | [], M => M
  | b :: l, M => rst l M / b
/-- a model's digits -/
def dD (B : List Nat) (M j : Nat) : Nat := rst (B.drop (j + 1)) M % B.getD j 1
theorem dD_lt {B : List Nat} {M j b : Nat} (hb : B[j]? = some b) (h0 : 0 < b) : dD B M j < b := by
  unfold dD
  rw [List.getD_eq_getElem?_getD, hb]
  exact Nat.mod_lt _ h0
theorem dgo_d {m M : Nat} {g : tx_g} (hm : 1 ≤ m ∧ m ≤ 3) : dgo m g (dD (md_B m (md_sy m g)) M) := fun j b hb => dD_lt hb (md_b3 hm (List.mem_of_getElem? hb)).1
theorem rst_le {l : List Nat} {M : Nat} : rst l M ≤ M := by
  induction l with
  | nil => exact Nat.le_refl _
  | cons b l ih => exact Nat.le_trans (Nat.div_le_self _ _) ih
theorem fs_8_9 {l : List Nat} {M : Nat} {s0 : ps_S} {R : ps_S → Prop} (hM : M < 100000) (hb : ∀ b, b ∈ l → 1 ≤ b ∧ b ≤ 3) (h90 : l.length ≤ 90) (D0 : jv_D s0 l) (k : ∀ s', jq 944 [946] [] s0 s' → (∀ (j b : Nat), l[j]? = some b → (ps_a s' 946 j).toInt = dD l M j) → R s') : ∀ (n : Nat) {s : ps_S} {x2 x3 : Int32} {i : Nat}, x3.toInt = (i : Int) - 1 → i ≤ l.length → x2.toInt = rst (l.drop i) M → jq 944 [946] [] s0 s → (∀ (j b : Nat), i ≤ j → l[j]? = some b → (ps_a s 946 j).toInt = dD l M j) → pl_At n 8 9 [(0, .ref 944), (2, .int x2), (3, .int x3)] [] s (ps_rV R)
  | 0, _, _, _, _, _, _, _, _, _ => pl_At_0
  | n + 1, s, x2, x3, i, h3, hi, h2, K, hj => by
    have D := jv_D_jq D0 K rfl (by decide)
    have c0 : (0 : Int32).toInt = 0 := by decide
    refine pl_8_9 ⟨fun z => ?_, fun z => ?_⟩
    · have z := xlt z
      exact k s K (fun j b hb => hj j b (by omega) hb)
    · have z := xle z
      have h3' : x3.toInt = (i - 1 : Nat) := by omega
      obtain ⟨b, hb'⟩ : ∃ b, l[i - 1]? = some b := ⟨_, List.getElem?_eq_getElem (by omega)⟩
      have hbb := hb b (List.mem_of_getElem? hb')
      have hr : rst (l.drop i) M ≤ M := rst_le
      refine fs_182v (a := i - 1) h3' (show i - 1 < 90 from by omega) (by decide) (fun v q => ?_)
      have ev : v.toInt = b := by rw [q]; exact D.2 _ _ hb'
      refine ⟨fun y => absurd (xle y) (by omega), fun y => ?_⟩
      refine pl_nk_i (fun _ => ?_)
      refine fs_183 (a := i - 1) h3' (show i - 1 < 90 from by omega) (by decide) (pl_nk_i (fun _ => ?_))
      have ed : (x2 - (x2 / v) * v).toInt = (rst (l.drop i) M % b : Nat) := by rw [xmodr (by omega) (by omega), h2, ev, Int.natCast_emod]
      refine fs_8_9 hM hb h90 D0 k n (xmin1 h3') (by omega) ?_ (jqa K rfl) (fun j b' hj2 hb2 => ?_)
      · rw [xdivr (by omega) (by omega), h2, ev, drop_c hb', show i - 1 + 1 = i from by omega, ← Int.natCast_ediv]
        rfl
      · rw [ps_a_ua]
        by_cases e : j = i - 1
        · rw [if_pos ⟨rfl, e⟩, ed, e]
          unfold dD
          rw [show i - 1 + 1 = i from by omega, List.getD_eq_getElem?_getD, hb']
          rfl
        · rw [if_neg (fun w => e w.2)]
          exact hj j b' (by omega) hb2
theorem fs_8 {n M : Nat} {l : List Nat} {x1 : Int32} {s : ps_S} {R : ps_S → Prop} (hM : M < 100000) (hb : ∀ b, b ∈ l → 1 ≤ b ∧ b ≤ 3) (h90 : l.length ≤ 90) (D0 : jv_D s l) (hx : x1.toInt = M) (k : ∀ s', jq 944 [946] [] s s' → (∀ (j b : Nat), l[j]? = some b → (ps_a s' 946 j).toInt = dD l M j) → R s') : pl_Cl n 8 [.ref 944, .int x1] s (ps_rV R) := by
  cases n with
  | zero => exact pl_At_0
  | succ n =>
  show pl_At (n + 1) 8 0 [(0, .ref 944), (1, .int x1)] [] s (ps_rV R)
  have c1 : (1 : Int32).toInt = 1 := by decide
  have hl := D0.1
  refine pl_8_0 ?_
  refine fs_8_9 hM hb h90 D0 k n (i := l.length) (by rw [xIs (by omega) (by omega), hl, c1]) (Nat.le_refl _) ?_ jq_refl (fun j b a hb2 => ?_)
  · rw [List.drop_length]
    exact hx
  · have := (List.getElem?_eq_some_iff.mp hb2).1
    omega
theorem sh_e0 : ∀ i, i < 8 → ps_e0 949 i = 989 + 4 * i ∧ ps_is (989 + 4 * i) 6 = true := by decide +kernel
theorem fs_10 {n i : Nat} {x1 : Int32} {s : ps_S} {R : Nat → ps_S → Prop} (hx : x1.toInt = i) (hi : i < 8) (k : R (989 + 4 * i) s) : pl_Cl n 10 [.ref 944, .int x1] s (ps_rA R) := by
  cases n with
  | zero => exact pl_At_0
  | succ n =>
  show pl_At (n + 1) 10 0 [(0, .ref 944), (1, .int x1)] [] s (ps_rA R)
  have c0 : (0 : Int32).toInt = 0 := by decide
  have c8 : (nI 8).toInt = 8 := by decide
  refine pl_10_0 ⟨fun z => absurd (xlt z) (by omega), fun _ => ⟨fun z => absurd (xle z) (by omega), fun _ => ?_⟩⟩
  intro _
  rw [xtn hx, (sh_e0 i hi).1]
  exact k
/-- the axioms are measured -/
def MA (s : ps_S) (h : tx_H) (i : Nat) : Prop := ∀ (k : Nat) (w l : List Nat), k < i → h.2[k]? = some (w, l) → shE s (989 + 4 * k) (arh h.1) l 0
def CMA (q : Nat) : Prop := 989 ≤ q ∧ q < 1021
theorem fs_9_2 {th : Nat} {h : tx_H} {s0 : ps_S} {R : ps_S → Prop} (hth : th = 2 ∨ th = 26) (H0 : cv_H s0 th h) (hw : WFt h) (hr : ps_r s0 944 16 = th) (k : ∀ s', cfr CMA s0 s' → MA s' h h.2.length → R s') : ∀ (n : Nat) {s : ps_S} {x1 : Int32} {i : Nat}, x1.toInt = i → i ≤ h.2.length → cfr CMA s0 s → MA s h i → pl_At n 9 2 [(0, .ref 944), (1, .int x1)] [] s (ps_rV R)
  | 0, _, _, _, _, _, _, _ => pl_At_0
  | n + 1, s, x1, i, h1, hi, F, hM => by
    have h8 := H0.2.2.1
    have H := cv_H_cfr H0 F (fun q a b => by unfold CMA; omega)
    have er : ps_r s 944 16 = th := by rw [(F 944 (by unfold CMA; omega)).2.2.1]; exact hr
    have esz := H.2.1
    refine pl_9_2 (pl_nk_i (fun _ => ?_))
    rw [er]
    refine ⟨fun z => ?_, fun z => ?_⟩
    · have z := xle z
      have e : i = h.2.length := by omega
      subst e
      exact k s F hM
    · have z := xlt z
      obtain ⟨⟨w, l⟩, hk⟩ : ∃ p, h.2[i]? = some p := ⟨_, List.getElem?_eq_getElem (by omega)⟩
      obtain ⟨y1, y2, W⟩ := H.2.2.2 i w l hk
      obtain ⟨hf, hl40, h60⟩ := hw.2.2 i w l hk
      have Kk := th_K hth (k := i) (by omega)
      have hr5 : ps_is (th + 8 + 2 * i) 5 = true := ps_is5 Kk.2.2.2.2.2.1
      refine fs_10 h1 (by omega) ?_
      rw [er]
      refine fs_135 hth h1 (by omega) ?_
      rw [er]
      refine fs_103 (r := 989 + 4 * i) (r1 := th + 8 + 2 * i) (l := l) (sh_e0 i (by omega)).2 hr5 hth ⟨by omega, by omega⟩ (wf_ws hf) (Or.inl rfl) W H.1 (fun s1 Z F1 => ?_)
      refine fs_9_2 hth H0 hw hr k n (xj1 h1 (by omega)) (by omega) (cfr_tr F (cfr_mono F1 (fun q z => by unfold CSh at z; unfold CMA; omega))) (fun k2 w2 l2 hk2 hk3 => ?_)
      rcases Nat.lt_or_ge k2 i with y | y
      · intro j a b
        rw [(F1 (989 + 4 * k2 + 1) (by unfold CSh; omega)).2.2.2.1]
        exact hM k2 w2 l2 y hk3 j a b
      · rw [show k2 = i from by omega] at hk3 ⊢
        rw [hk] at hk3
        cases hk3
        exact Z.1
theorem fs_9 {n th : Nat} {h : tx_H} {s : ps_S} {R : ps_S → Prop} (hth : th = 2 ∨ th = 26) (H : cv_H s th h) (hw : WFt h) (hr : ps_r s 944 16 = th) (k : ∀ s', cfr CMA s s' → MA s' h h.2.length → R s') : pl_Cl n 9 [.ref 944] s (ps_rV R) := by
  cases n with
  | zero => exact pl_At_0
  | succ n =>
  show pl_At (n + 1) 9 0 [(0, .ref 944)] [] s (ps_rV R)
  exact pl_9_0 (fs_9_2 hth H hw hr k n (i := 0) rfl (Nat.zero_le _) cfr_refl (fun k w l hk => absurd hk (Nat.not_lt_zero _)))
/-- all axioms hold in the model M of m things -/
def AX (h : tx_H) (m M : Nat) : Prop := ∀ (k : Nat) (w l : List Nat), h.2[k]? = some (w, l) → svg m h.1 (dD (md_B m (md_sy m h.1)) M) (fun _ => 0) 13 [] l = 1
/-- what is laid: tables, measured axioms -/
def JA (s : ps_S) (th m : Nat) (h : tx_H) : Prop := cv_H s th h ∧ JL s th m h.1 ∧ MA s h h.2.length
theorem JA_cfr {C : Nat → Prop} {s s' : ps_S} {th m : Nat} {h : tx_H} (H : JA s th m h) (F : cfr C s s') (hth : th = 2 ∨ th = 26) (hC : ∀ q, q < 944 ∨ q = 945 ∨ q = 947 ∨ q = 948 ∨ (989 ≤ q ∧ q < 1021) → ¬ C q) (r16 : ps_r s' 944 16 = ps_r s 944 16) (i2 : ps_i s' 944 2 = ps_i s 944 2) (i11 : ps_i s' 944 11 = ps_i s 944 11) : JA s' th m h := by
  obtain ⟨h1, ⟨j1, j2, ⟨j3, j3'⟩, j4, j5⟩, h3⟩ := H
  have hl := h1.2.2.1
  refine ⟨cv_H_cfr h1 F (fun q a b => hC q (Or.inl (by omega))), ⟨by rw [r16]; exact j1, by rw [i11]; exact j2, ⟨by rw [i2]; exact j3, ?_⟩, ?_, ?_⟩, ?_⟩
  · unfold ar_L
    rw [(F 945 (hC _ (by omega))).2.2.2.1]
    exact j3'
  · rw [(F 947 (hC _ (by omega))).2.2.2.1]
    exact j4
  · rw [(F 948 (hC _ (by omega))).2.2.2.1]
    exact j5
  · intro k w l hk hk2 j a b
    have hk3 := (List.getElem?_eq_some_iff.mp hk2).1
    rw [(F (989 + 4 * k + 1) (hC _ (by omega))).2.2.2.1]
    exact h3 k w l hk hk2 j a b
/-- digits are those of M -/
def DG (s : ps_S) (m M : Nat) (g : tx_g) : Prop := ∀ (j b : Nat), (md_B m (md_sy m g))[j]? = some b → (ps_a s 946 j).toInt = dD (md_B m (md_sy m g)) M j
theorem pt_0 {g : tx_g} {l : List Nat} (h1 : bc (arh g) [(0, 0)] l) (h2 : wf (sg g) 5 l [(true, 0)]) : pt g true 0 0 (l.drop 0) := ⟨[], [], h1, h2⟩
/-- cells of the judge that evaluation changes -/
def CEv (q : Nat) : Prop := q = 944 ∨ q = 946 ∨ q = 954
theorem fs_12_7 {th m M : Nat} {h : tx_H} {s0 : ps_S} {R : Int32 → ps_S → Prop} (hth : th = 2 ∨ th = 26) (hm : 1 ≤ m ∧ m ≤ 3) (hw : WFt h) (hb : BTh h) (k1 : ∀ s', AX h m M → JA s' th m h → cfr CEv s0 s' → ps_i s' 944 = ps_i s0 944 → R 1 s') (k0 : ∀ s', ¬ AX h m M → JA s' th m h → cfr CEv s0 s' → ps_i s' 944 = ps_i s0 944 → R 0 s') : ∀ (n : Nat) {s : ps_S} {x2 : Int32} {i : Nat}, x2.toInt = i → i ≤ h.2.length → JA s th m h → DG s m M h.1 → cfr CEv s0 s → ps_i s 944 = ps_i s0 944 → (∀ (k : Nat) (w l : List Nat), k < i → h.2[k]? = some (w, l) → svg m h.1 (dD (md_B m (md_sy m h.1)) M) (fun _ => 0) 13 [] l = 1) → pl_At n 12 7 [(0, .ref 944), (2, .int x2)] [] s (ps_rI R)
  | 0, _, _, _, _, _, _, _, _, _, _ => pl_At_0
  | n + 1, s, x2, i, h2, hi, J, G, F, Fi, hj => by
    have er : ps_r s 944 16 = th := J.2.1.1
    have esz := J.1.2.1
    have h8 := J.1.2.2.1
    refine pl_12_7 (pl_nk_i (fun _ => ?_))
    rw [er]
    refine ⟨fun z => ?_, fun z => ?_⟩
    · have z := xle z
      exact k1 s (fun k w l hk => hj k w l (by have := (List.getElem?_eq_some_iff.mp hk).1; omega) hk) J F Fi
    · have z := xlt z
      obtain ⟨⟨w, l⟩, hk⟩ : ∃ p, h.2[i]? = some p := ⟨_, List.getElem?_eq_getElem (by omega)⟩
      obtain ⟨y1, y2, W⟩ := J.1.2.2.2 i w l hk
      obtain ⟨hf, hl40, h60⟩ := hw.2.2 i w l hk
      obtain ⟨hbc, -⟩ := hb.2.2 i w l hk
      have Kk := th_K hth (k := i) (by omega)
      have hr5 : ps_is (th + 8 + 2 * i) 5 = true := ps_is5 Kk.2.2.2.2.2.1
      refine fs_135 hth h2 (by omega) ?_
      refine fs_10 h2 (by omega) ?_
      have F1 : cfr (fun q => q = 944) s (ps_ur (ps_ur s 944 14 (th + 8 + 2 * i)) 944 15 (989 + 4 * i)) := cfr_r (cfr_r cfr_refl rfl) rfl
      have r16 : ps_r (ps_ur (ps_ur s 944 14 (th + 8 + 2 * i)) 944 15 (989 + 4 * i)) 944 16 = ps_r s 944 16 := by rw [ps_r_ur, if_neg (by omega), ps_r_ur, if_neg (by omega)]
      have J1 := JA_cfr J F1 hth (fun q a b => by omega) r16 rfl rfl
      have FJ : JF (th + 8 + 2 * i) (989 + 4 * i) th m h.1 l := ⟨hr5, (sh_e0 i (by omega)).2, hth, ⟨by omega, by omega, by omega⟩, hm, hl40⟩
      have E1 : JE (ps_ur (ps_ur s 944 14 (th + 8 + 2 * i)) 944 15 (989 + 4 * i)) (th + 8 + 2 * i) (989 + 4 * i) th m h.1 l (dD (md_B m (md_sy m h.1)) M) (fun _ => 0) := by
        refine ⟨⟨?_, ?_⟩, cv_W_cfr W F1 (by omega) (by omega), J1.2.2 i w l (by omega) hk, J1.1.1, J1.2.1, fun j b hb2 => ⟨G j b hb2, dgo_d hm j b hb2⟩, fun v hv => absurd (h60 _ hv) (by omega)⟩
        · rw [ps_r_ur, if_neg (by omega), ps_r_ur, if_pos ⟨rfl, rfl⟩]
        · rw [ps_r_ur, if_pos ⟨rfl, rfl⟩]
      refine (J15_all FJ n).1.1 (i := 0) (p := 0) (env := []) E1 (fun k x hk => by cases hk) (pt_0 hbc hf) rfl rfl rfl (fun v s' q => ?_)
      obtain ⟨b1, i1, P⟩ := q
      rw [List.drop_zero] at i1
      have F2 : cfr CEv s0 s' := cfr_tr (cfr_tr F (cfr_mono F1 (fun q z => Or.inl z))) (cfr_mono (jq_cfr P.2.2.1) (fun q z => by
        rcases z with z | z
        · exact Or.inl z
        · have := List.contains_iff_mem.mp z
          rw [List.mem_singleton] at this
          exact Or.inr (Or.inr this)))
      have Fi2 : ps_i s' 944 = ps_i s0 944 := by
        rw [← Fi]
        funext f
        exact jq_i P.2.2.1 f rfl
      have J2 : JA s' th m h := JA_cfr J1 (jq_cfr P.2.2.1) hth (fun q a b => by
        rcases b with b | b
        · omega
        · have := List.contains_iff_mem.mp b
          rw [List.mem_singleton] at this
          omega) (by rw [jq_r P.2.2.1]) (jq_i P.2.2.1 2 rfl) (jq_i P.2.2.1 11 rfl)
      have c0 : (0 : Int32).toInt = 0 := by decide
      refine ⟨fun y => ?_, fun y => ?_⟩
      · have y := xne y
        refine fs_12_7 hth hm hw hb k1 k0 n (xj1 h2 (by omega)) (by omega) J2 (fun j b hb2 => ?_) F2 Fi2 (fun k w2 l2 hk2 hk3 => ?_)
        · rw [jq_a P.2.2.1 946 (by decide)]
          exact G j b hb2
        · rcases Nat.lt_or_ge k i with a | a
          · exact hj k w2 l2 a hk3
          · rw [show k = i from by omega, hk] at hk3
            cases hk3
            exact i1.mp (by omega)
      · have y := xeq y
        exact k0 s' (fun a => by have := i1.mpr (a i w l hk); omega) J2 F2 Fi2
theorem fs_12 {n th m M : Nat} {h : tx_H} {x1 : Int32} {s : ps_S} {R : Int32 → ps_S → Prop} (hth : th = 2 ∨ th = 26) (hm : 1 ≤ m ∧ m ≤ 3) (hw : WFt h) (hb : BTh h) (hM : M < 100000) (hx : x1.toInt = M) (J : JA s th m h) (k1 : ∀ s', AX h m M ∧ JA s' th m h ∧ cfr CEv s s' ∧ ps_i s' 944 = ps_i s 944 → R 1 s') (k0 : ∀ s', ¬ AX h m M ∧ JA s' th m h ∧ cfr CEv s s' ∧ ps_i s' 944 = ps_i s 944 → R 0 s') : pl_Cl n 12 [.ref 944, .int x1] s (ps_rI R) := by
  cases n with
  | zero => exact pl_At_0
  | succ n =>
  show pl_At (n + 1) 12 0 [(0, .ref 944), (1, .int x1)] [] s (ps_rI R)
  refine pl_12_0 ?_
  have h90 : (md_B m (md_sy m h.1)).length ≤ 90 := by
    have hl := md_o_le hm.2 (md_sy_ar (m := m) J.1.1) (md_sy m h.1).length (Nat.le_refl _)
    unfold md_o at hl
    rw [List.take_length, md_sy_len] at hl
    have := J.1.1.2.2.1
    have := J.1.1.2.2.2.1
    omega
  refine fs_8 hM (fun b hb2 => md_b3 hm hb2) h90 J.2.1.2.2.1 hx (fun s1 K G => ?_)
  have F1 : cfr CEv s s1 := cfr_mono (jq_cfr K) (fun q z => by
    rcases z with z | z
    · exact Or.inl z
    · have := List.contains_iff_mem.mp z
      rw [List.mem_singleton] at this
      exact Or.inr (Or.inl this))
  have J1 := JA_cfr J (jq_cfr K) hth (fun q a b => by
        rcases b with b | b
        · omega
        · have := List.contains_iff_mem.mp b
          rw [List.mem_singleton] at this
          omega) (by rw [jq_r K]) (jq_i K 2 rfl) (jq_i K 11 rfl)
  exact fs_12_7 (s0 := s) hth hm hw hb (fun s' a b c d => k1 s' ⟨a, b, c, d⟩) (fun s' a b c d => k0 s' ⟨a, b, c, d⟩) n (i := 0) rfl (Nat.zero_le _) J1 G F1 (funext fun f => jq_i K f rfl) (fun k w l hk => absurd hk (Nat.not_lt_zero _))

