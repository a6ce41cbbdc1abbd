set_option maxRecDepth 100000
/-! the class: a step is made, less its premises' assumptions -/
-- ProofBench$Shelf.has(I)Z
theorem pl_109_0 {n : Nat} {r0 : Nat} {x1 : Int32} {s : ps_S} {Q : Option Value → ps_S → Prop} (h :
  (x1 < 0 →
    Q (some (.int 0)) s) ∧
  (0 ≤ x1 →
    pl_nk (ps_is r0 7) (((ps_i s r0 5) ≤ x1 →
      Q (some (.int 0)) s) ∧
    (x1 < (ps_i s r0 5) →
      Q (some (.int 1)) s)))) : pl_At (n + 1) 109 0 [(0, .ref r0), (1, .int x1)] [] s Q :=
  pl_wp_at (stops := []) (f := 15) h rfl

-- ProofBench$Shelf.rowAt(I)LProofBench$Row;
theorem pl_110_0 {n : Nat} {r0 : Nat} {x1 : Int32} {s : ps_S} {Q : Option Value → ps_S → Prop} (h :
  (x1 < 0 →
    pl_nk (ps_is r0 7) (Q (some (.ref (ps_c0 r0 1))) s)) ∧
  (0 ≤ x1 →
    pl_nk (ps_is r0 7) (pl_nk (Nat.beq (ps_K (ps_c0 r0 0)).1 0) (((nI (ps_ln (ps_c0 r0 0))) ≤ x1 →
      pl_nk (ps_is r0 7) (Q (some (.ref (ps_c0 r0 1))) s)) ∧
    (x1 < (nI (ps_ln (ps_c0 r0 0))) →
      pl_nk (ps_is r0 7) (pl_nk (ps_ar (ps_c0 r0 0) 4 || ps_ar (ps_c0 r0 0) 5 || ps_ar (ps_c0 r0 0) 6 || ps_ar (ps_c0 r0 0) 7) ((pm_in x1 (ps_ln (ps_c0 r0 0)) = true →
        Q (some (.ref (ps_e0 (ps_c0 r0 0) (Int32.toNatClampNeg x1)))) s)))))))) : pl_At (n + 1) 110 0 [(0, .ref r0), (1, .int x1)] [] s Q :=
  pl_wp_at (stops := []) (f := 21) h rfl

-- ProofBench$Proof.assumes(LProofBench$Step;LProofBench$Row;)Z
theorem pl_40_0 {n : Nat} {r0 : Nat} {r1 : Nat} {r2 : Nat} {s : ps_S} {Q : Option Value → ps_S → Prop} (h :
  pl_At n 40 2 [(0, .ref r0), (1, .ref r1), (2, .ref r2), (3, .int 0)] [] s Q) : pl_At (n + 1) 40 0 [(0, .ref r0), (1, .ref r1), (2, .ref r2)] [] s Q :=
  pl_wp_at (stops := [(2, [0, 1, 2, 3])]) (f := 4) h rfl

theorem pl_40_2 {n : Nat} {r0 : Nat} {r1 : Nat} {r2 : Nat} {x3 : Int32} {s : ps_S} {Q : Option Value → ps_S → Prop} (h :
  pl_nk (ps_is r1 8) (((ps_i s r1 8) ≤ x3 →
    Q (some (.int 0)) s) ∧
  (x3 < (ps_i s r1 8) →
    pl_Cl n 122 [.ref r1, .int x3] s (ps_rI (fun v1 s1 =>
      pl_Cl n 33 [.ref r0, .int v1] s1 (ps_rA (fun v2 s2 =>
        pl_nk (ps_is v2 8) (pl_Cl n 98 [.ref (ps_c0 v2 6), .ref r2] s2 (ps_rI (fun v3 s3 =>
          (v3 = 0 →
            pl_At n 40 2 [(0, .ref r0), (1, .ref r1), (2, .ref r2), (3, .int (x3 + 1))] [] s3 Q) ∧
          (v3 ≠ 0 →
            Q (some (.int 1)) s3))))))))))) : pl_At (n + 1) 40 2 [(0, .ref r0), (1, .ref r1), (2, .ref r2), (3, .int x3)] [] s Q :=
  pl_wp_at (stops := [(2, [0, 1, 2, 3])]) (f := 21) h rfl

-- ProofBench$Proof.gather(LProofBench$Step;LProofBench$Step;LProofBench$Row;)V
theorem pl_39_0 {n : Nat} {r0 : Nat} {r1 : Nat} {r2 : Nat} {r3 : Nat} {s : ps_S} {Q : Option Value → ps_S → Prop} (h :
  pl_At n 39 3 [(0, .ref r0), (1, .ref r1), (2, .ref r2), (3, .ref r3), (4, .int 0)] [] s Q) : pl_At (n + 1) 39 0 [(0, .ref r0), (1, .ref r1), (2, .ref r2), (3, .ref r3)] [] s Q :=
  pl_wp_at (stops := [(3, [0, 1, 2, 3, 4])]) (f := 4) h rfl

theorem pl_39_3 {n : Nat} {r0 : Nat} {r1 : Nat} {r2 : Nat} {r3 : Nat} {x4 : Int32} {s : ps_S} {Q : Option Value → ps_S → Prop} (h :
  pl_nk (ps_is r2 8) (((ps_i s r2 8) ≤ x4 →
    Q none s) ∧
  (x4 < (ps_i s r2 8) →
    pl_Cl n 122 [.ref r2, .int x4] s (ps_rI (fun v1 s1 =>
      pl_Cl n 33 [.ref r0, .int v1] s1 (ps_rA (fun v2 s2 =>
        pl_nk (ps_is v2 8) (pl_Cl n 98 [.ref (ps_c0 v2 6), .ref r3] s2 (ps_rI (fun v3 s3 =>
          (v3 ≠ 0 →
            pl_At n 39 3 [(0, .ref r0), (1, .ref r1), (2, .ref r2), (3, .ref r3), (4, .int (x4 + 1))] [] s3 Q) ∧
          (v3 = 0 →
            pl_Cl n 40 [.ref r0, .ref r1, .ref (ps_c0 v2 6)] s3 (ps_rI (fun v4 s4 =>
              (v4 ≠ 0 →
                pl_At n 39 3 [(0, .ref r0), (1, .ref r1), (2, .ref r2), (3, .ref r3), (4, .int (x4 + 1))] [] s4 Q) ∧
              (v4 = 0 →
                pl_Cl n 123 [.ref r1, .int v1] s4 (ps_rV (fun s5 =>
                  pl_At n 39 3 [(0, .ref r0), (1, .ref r1), (2, .ref r2), (3, .ref r3), (4, .int (x4 + 1))] [] s5 Q)))))))))))))))) : pl_At (n + 1) 39 3 [(0, .ref r0), (1, .ref r1), (2, .ref r2), (3, .ref r3), (4, .int x4)] [] s Q :=
  pl_wp_at (stops := [(3, [0, 1, 2, 3, 4])]) (f := 34) h rfl

-- ProofBench$Proof.hasPremises(LProofBench$Step;ILProofBench$Shelf;)Z
theorem pl_36_0 {n : Nat} {r0 : Nat} {r1 : Nat} {x2 : Int32} {r3 : Nat} {s : ps_S} {Q : Option Value → ps_S → Prop} (h :
  pl_nk (ps_is r1 8) (((ps_i s r1 0) ≠ 12 →
    pl_At n 36 22 [(1, .ref r1), (2, .int x2), (4, .int 0)] [] s Q) ∧
  ((ps_i s r1 0) = 12 →
    pl_Cl n 121 [.ref r1, .int 0] s (ps_rI (fun v1 s1 =>
      pl_Cl n 109 [.ref r3, .int v1] s1 (ps_rI (fun v2 s2 =>
        pl_nk (decide (v2 &&& 1 = v2)) (Q (some (.int v2)) s2)))))))) : pl_At (n + 1) 36 0 [(0, .ref r0), (1, .ref r1), (2, .int x2), (3, .ref r3)] [] s Q :=
  pl_wp_at (stops := [(22, [1, 2, 4])]) (f := 14) h rfl

theorem pl_36_22 {n : Nat} {r1 : Nat} {x2 : Int32} {x4 : Int32} {s : ps_S} {Q : Option Value → ps_S → Prop} (h :
  pl_nk (ps_is r1 8) (pl_Cl n 116 [.int (ps_i s r1 0)] s (ps_rI (fun v1 s1 =>
    (v1 ≤ x4 →
      Q (some (.int 1)) s1) ∧
    (x4 < v1 →
      pl_Cl n 121 [.ref r1, .int x4] s1 (ps_rI (fun v2 s2 =>
        (v2 < x2 →
          pl_At n 36 22 [(1, .ref r1), (2, .int x2), (4, .int (x4 + 1))] [] s2 Q) ∧
        (x2 ≤ v2 →
          Q (some (.int 0)) s2)))))))) : pl_At (n + 1) 36 22 [(1, .ref r1), (2, .int x2), (4, .int x4)] [] s Q :=
  pl_wp_at (stops := [(22, [1, 2, 4])]) (f := 18) h rfl

-- ProofBench$Proof.isFreeInAssumed(LProofBench$Step;ILProofBench$Row;)Z
theorem pl_51_0 {n : Nat} {r0 : Nat} {r1 : Nat} {x2 : Int32} {r3 : Nat} {s : ps_S} {Q : Option Value → ps_S → Prop} (h :
  pl_At n 51 3 [(0, .ref r0), (1, .ref r1), (2, .int x2), (3, .ref r3), (4, .int 0)] [] s Q) : pl_At (n + 1) 51 0 [(0, .ref r0), (1, .ref r1), (2, .int x2), (3, .ref r3)] [] s Q :=
  pl_wp_at (stops := [(3, [0, 1, 2, 3, 4])]) (f := 4) h rfl

theorem pl_51_3 {n : Nat} {r0 : Nat} {r1 : Nat} {x2 : Int32} {r3 : Nat} {x4 : Int32} {s : ps_S} {Q : Option Value → ps_S → Prop} (h :
  pl_nk (ps_is r1 8) (((ps_i s r1 8) ≤ x4 →
    Q (some (.int 0)) s) ∧
  (x4 < (ps_i s r1 8) →
    pl_Cl n 122 [.ref r1, .int x4] s (ps_rI (fun v1 s1 =>
      pl_Cl n 33 [.ref r0, .int v1] s1 (ps_rA (fun v2 s2 =>
        pl_nk (ps_is v2 8) (pl_Cl n 98 [.ref (ps_c0 v2 6), .ref r3] s2 (ps_rI (fun v3 s3 =>
          (v3 ≠ 0 →
            pl_At n 51 3 [(0, .ref r0), (1, .ref r1), (2, .int x2), (3, .ref r3), (4, .int (x4 + 1))] [] s3 Q) ∧
          (v3 = 0 →
            pl_Cl n 100 [.ref (ps_c0 v2 6), .int x2] s3 (ps_rI (fun v4 s4 =>
              (v4 = 0 →
                pl_At n 51 3 [(0, .ref r0), (1, .ref r1), (2, .int x2), (3, .ref r3), (4, .int (x4 + 1))] [] s4 Q) ∧
              (v4 ≠ 0 →
                Q (some (.int 1)) s4)))))))))))))) : pl_At (n + 1) 51 3 [(0, .ref r0), (1, .ref r1), (2, .int x2), (3, .ref r3), (4, .int x4)] [] s Q :=
  pl_wp_at (stops := [(3, [0, 1, 2, 3, 4])]) (f := 29) h rfl

-- ProofBench$Proof.putInto(LProofBench$Row;LProofBench$Row;LProofBench$Row;)V
theorem pl_52_0 {n : Nat} {r0 : Nat} {r1 : Nat} {r2 : Nat} {r3 : Nat} {s : ps_S} {Q : Option Value → ps_S → Prop} (h :
  pl_nk (ps_is r0 2) (pl_nk (ps_is r0 2) (pl_Cl n 103 [.ref (ps_c0 r0 5), .ref r2, .ref (ps_r s r0 6)] s (ps_rV (fun s1 =>
    pl_Cl n 91 [.ref r1] s1 (ps_rV (fun s2 =>
      pl_At n 52 19 [(0, .ref r0), (1, .ref r1), (2, .ref r2), (3, .ref r3), (4, .int 1)] [] s2 Q))))))) : pl_At (n + 1) 52 0 [(0, .ref r0), (1, .ref r1), (2, .ref r2), (3, .ref r3)] [] s Q :=
  pl_wp_at (stops := [(19, [0, 1, 2, 3, 4])]) (f := 12) h rfl

theorem pl_52_19 {n : Nat} {r0 : Nat} {r1 : Nat} {r2 : Nat} {r3 : Nat} {x4 : Int32} {s : ps_S} {Q : Option Value → ps_S → Prop} (h :
  pl_nk (ps_is r2 5) (((ps_i s r2 1) ≤ x4 →
    Q none s) ∧
  (x4 < (ps_i s r2 1) →
    pl_Cl n 92 [.ref r2, .int x4] s (ps_rI (fun v1 s1 =>
      pl_nk (ps_is r0 2) (pl_Cl n 105 [.ref (ps_c0 r0 5), .int x4] s1 (ps_rI (fun v2 s2 =>
        (v1 ≠ (((40 : Int32) + v2) - 1) →
          pl_Cl n 92 [.ref r2, .int x4] s2 (ps_rI (fun v3 s3 =>
            pl_Cl n 93 [.ref r1, .int v3] s3 (ps_rV (fun s4 =>
              pl_At n 52 19 [(0, .ref r0), (1, .ref r1), (2, .ref r2), (3, .ref r3), (4, .int (x4 + 1))] [] s4 Q))))) ∧
        (v1 = (((40 : Int32) + v2) - 1) →
          pl_nk (ps_is r3 5) (pl_Cl n 94 [.ref r1, .ref r3, .int 0, .int (ps_i s2 r3 1)] s2 (ps_rV (fun s5 =>
            pl_At n 52 19 [(0, .ref r0), (1, .ref r1), (2, .ref r2), (3, .ref r3), (4, .int (x4 + 1))] [] s5 Q)))))))))))) : pl_At (n + 1) 52 19 [(0, .ref r0), (1, .ref r1), (2, .ref r2), (3, .ref r3), (4, .int x4)] [] s Q :=
  pl_wp_at (stops := [(19, [0, 1, 2, 3, 4])]) (f := 35) h rfl

-- ProofBench$Proof.generalise(LProofBench$Step;LProofBench$Row;)I
theorem pl_49_0 {n : Nat} {r0 : Nat} {r1 : Nat} {r2 : Nat} {s : ps_S} {Q : Option Value → ps_S → Prop} (h :
  pl_Cl n 37 [.ref r0, .ref r1, .int 0] s (ps_rA (fun v1 s1 =>
    pl_nk (ps_is r1 8) (pl_nk (ps_is r0 2) (pl_Cl n 51 [.ref r0, .ref v1, .int (ps_i s1 r1 3), .ref (ps_c0 r0 3)] s1 (ps_rI (fun v2 s2 =>
      (v2 = 0 →
        pl_nk (ps_is r0 2) (pl_nk (ps_is r0 2) (pl_Cl n 103 [.ref (ps_c0 r0 5), .ref r2, .ref (ps_r s2 r0 6)] s2 (ps_rV (fun s3 =>
          pl_nk (ps_is r1 8) (pl_Cl n 91 [.ref (ps_c0 r1 6)] s3 (ps_rV (fun s4 =>
            pl_nk (ps_is r1 8) (pl_Cl n 93 [.ref (ps_c0 r1 6), .int 4] s4 (ps_rV (fun s5 =>
              pl_At n 49 52 [(0, .ref r0), (1, .ref r1), (2, .ref r2), (3, .int 0)] [] s5 Q))))))))))) ∧
      (v2 ≠ 0 →
        Q (some (.int 3)) s2)))))))) : pl_At (n + 1) 49 0 [(0, .ref r0), (1, .ref r1), (2, .ref r2)] [] s Q :=
  pl_wp_at (stops := [(52, [0, 1, 2, 3])]) (f := 30) h rfl

theorem pl_49_52 {n : Nat} {r0 : Nat} {r1 : Nat} {r2 : Nat} {x3 : Int32} {s : ps_S} {Q : Option Value → ps_S → Prop} (h :
  pl_nk (ps_is r2 5) (((ps_i s r2 1) ≤ x3 →
    Q (some (.int 0)) s) ∧
  (x3 < (ps_i s r2 1) →
    pl_nk (ps_is r1 8) (pl_Cl n 92 [.ref r2, .int x3] s (ps_rI (fun v1 s1 =>
      pl_nk (ps_is r1 8) ((v1 ≠ (ps_i s1 r1 3) →
        pl_Cl n 92 [.ref r2, .int x3] s1 (ps_rI (fun v2 s2 =>
          pl_Cl n 93 [.ref (ps_c0 r1 6), .int v2] s2 (ps_rV (fun s3 =>
            pl_At n 49 52 [(0, .ref r0), (1, .ref r1), (2, .ref r2), (3, .int (x3 + 1))] [] s3 Q))))) ∧
      (v1 = (ps_i s1 r1 3) →
        pl_nk (ps_is r0 2) (pl_Cl n 105 [.ref (ps_c0 r0 5), .int x3] s1 (ps_rI (fun v4 s4 =>
          pl_Cl n 93 [.ref (ps_c0 r1 6), .int ((40 : Int32) + v4)] s4 (ps_rV (fun s5 =>
            pl_At n 49 52 [(0, .ref r0), (1, .ref r1), (2, .ref r2), (3, .int (x3 + 1))] [] s5 Q))))))))))))) : pl_At (n + 1) 49 52 [(0, .ref r0), (1, .ref r1), (2, .ref r2), (3, .int x3)] [] s Q :=
  pl_wp_at (stops := [(52, [0, 1, 2, 3])]) (f := 32) h rfl

-- ProofBench$Proof.isExchanged(LProofBench$Row;LProofBench$Row;LProofBench$Row;)Z
theorem pl_56_0 {n : Nat} {r0 : Nat} {r1 : Nat} {r2 : Nat} {r3 : Nat} {s : ps_S} {Q : Option Value → ps_S → Prop} (h :
  pl_nk (ps_is r0 2) (pl_nk (ps_is r0 2) (pl_Cl n 103 [.ref (ps_c0 r0 5), .ref r2, .ref (ps_r s r0 6)] s (ps_rV (fun s1 =>
    pl_nk (ps_is r0 2) (pl_Cl n 104 [.ref (ps_c0 r0 5), .int 1] s1 (ps_rI (fun v2 s2 =>
      pl_nk (ps_is r2 5) (pl_At n 56 46 [(1, .ref r1), (2, .ref r2), (3, .ref r3), (4, .int v2), (5, .int (v2 - 1)), (6, .int ((ps_i s2 r2 1) - v2)), (7, .int 0), (8, .int 0), (9, .int 0)] [] s2 Q))))))))) : pl_At (n + 1) 56 0 [(0, .ref r0), (1, .ref r1), (2, .ref r2), (3, .ref r3)] [] s Q :=
  pl_wp_at (stops := [(46, [1, 2, 3, 4, 5, 6, 7, 8, 9]), (117, [1, 2, 3, 4, 5, 6, 7, 8, 9]), (149, [1, 3, 7, 8])]) (f := 28) h rfl

theorem pl_56_46 {n : Nat} {r1 : Nat} {r2 : Nat} {r3 : Nat} {x4 : Int32} {x5 : Int32} {x6 : Int32} {x7 : Int32} {x8 : Int32} {x9 : Int32} {s : ps_S} {Q : Option Value → ps_S → Prop} (h :
  (40 ≤ x9 →
    pl_At n 56 149 [(1, .ref r1), (3, .ref r3), (7, .int x7), (8, .int x8)] [] s Q) ∧
  (x9 < 40 →
    pl_nk (ps_is r1 5) (((ps_i s r1 1) ≤ x7 →
      pl_At n 56 149 [(1, .ref r1), (3, .ref r3), (7, .int x7), (8, .int x8)] [] s Q) ∧
    (x7 < (ps_i s r1 1) →
      pl_nk (ps_is r3 5) (((ps_i s r3 1) ≤ x8 →
        pl_At n 56 149 [(1, .ref r1), (3, .ref r3), (7, .int x7), (8, .int x8)] [] s Q) ∧
      (x8 < (ps_i s r3 1) →
        pl_Cl n 99 [.ref r2, .int 1, .int x4, .ref r3, .int x8] s (ps_rI (fun v1 s1 =>
          (v1 = 0 →
            pl_At n 56 117 [(1, .ref r1), (2, .ref r2), (3, .ref r3), (4, .int x4), (5, .int x5), (6, .int x6), (7, .int x7), (8, .int x8), (9, .int x9)] [] s1 Q) ∧
          (v1 ≠ 0 →
            pl_nk (ps_is r2 5) (pl_Cl n 99 [.ref r2, .int x4, .int (ps_i s1 r2 1), .ref r1, .int x7] s1 (ps_rI (fun v2 s2 =>
              (v2 = 0 →
                pl_At n 56 117 [(1, .ref r1), (2, .ref r2), (3, .ref r3), (4, .int x4), (5, .int x5), (6, .int x6), (7, .int x7), (8, .int x8), (9, .int x9)] [] s2 Q) ∧
              (v2 ≠ 0 →
                pl_At n 56 46 [(1, .ref r1), (2, .ref r2), (3, .ref r3), (4, .int x4), (5, .int x5), (6, .int x6), (7, .int (x7 + x6)), (8, .int (x8 + x5)), (9, .int (x9 + 1))] [] s2 Q))))))))))))) : pl_At (n + 1) 56 46 [(1, .ref r1), (2, .ref r2), (3, .ref r3), (4, .int x4), (5, .int x5), (6, .int x6), (7, .int x7), (8, .int x8), (9, .int x9)] [] s Q :=
  pl_wp_at (stops := [(46, [1, 2, 3, 4, 5, 6, 7, 8, 9]), (117, [1, 2, 3, 4, 5, 6, 7, 8, 9]), (149, [1, 3, 7, 8])]) (f := 39) h rfl

theorem pl_56_117 {n : Nat} {r1 : Nat} {r2 : Nat} {r3 : Nat} {x4 : Int32} {x5 : Int32} {x6 : Int32} {x7 : Int32} {x8 : Int32} {x9 : Int32} {s : ps_S} {Q : Option Value → ps_S → Prop} (h :
  pl_Cl n 92 [.ref r1, .int x7] s (ps_rI (fun v1 s1 =>
    pl_Cl n 92 [.ref r3, .int x8] s1 (ps_rI (fun v2 s2 =>
      (v1 ≠ v2 →
        Q (some (.int 0)) s2) ∧
      (v1 = v2 →
        pl_At n 56 46 [(1, .ref r1), (2, .ref r2), (3, .ref r3), (4, .int x4), (5, .int x5), (6, .int x6), (7, .int (x7 + 1)), (8, .int (x8 + 1)), (9, .int (x9 + 1))] [] s2 Q)))))) : pl_At (n + 1) 56 117 [(1, .ref r1), (2, .ref r2), (3, .ref r3), (4, .int x4), (5, .int x5), (6, .int x6), (7, .int x7), (8, .int x8), (9, .int x9)] [] s Q :=
  pl_wp_at (stops := [(46, [1, 2, 3, 4, 5, 6, 7, 8, 9]), (117, [1, 2, 3, 4, 5, 6, 7, 8, 9]), (149, [1, 3, 7, 8])]) (f := 16) h rfl

theorem pl_56_149 {n : Nat} {r1 : Nat} {r3 : Nat} {x7 : Int32} {x8 : Int32} {s : ps_S} {Q : Option Value → ps_S → Prop} (h :
  pl_nk (ps_is r1 5) ((x7 ≠ (ps_i s r1 1) →
    Q (some (.int 0)) s) ∧
  (x7 = (ps_i s r1 1) →
    pl_nk (ps_is r3 5) ((x8 ≠ (ps_i s r3 1) →
      Q (some (.int 0)) s) ∧
    (x8 = (ps_i s r3 1) →
      Q (some (.int 1)) s))))) : pl_At (n + 1) 56 149 [(1, .ref r1), (3, .ref r3), (7, .int x7), (8, .int x8)] [] s Q :=
  pl_wp_at (stops := [(46, [1, 2, 3, 4, 5, 6, 7, 8, 9]), (117, [1, 2, 3, 4, 5, 6, 7, 8, 9]), (149, [1, 3, 7, 8])]) (f := 17) h rfl

-- ProofBench$Proof.makeAlone(LProofBench$Step;ILProofBench$Shelf;)I
theorem pl_43_0 {n : Nat} {r0 : Nat} {r1 : Nat} {x2 : Int32} {r3 : Nat} {s : ps_S} {Q : Option Value → ps_S → Prop} (h :
  pl_nk (ps_is r1 8) (((ps_i s r1 0) = 10 →
    pl_nk (ps_is r1 8) (pl_nk (ps_is r0 2) (pl_nk (ps_is r1 8) (pl_Cl n 135 [.ref (ps_r s r0 6), .int (ps_i s r1 2)] s (ps_rA (fun v1 s1 =>
      pl_Cl n 95 [.ref (ps_c0 r1 6), .ref v1] s1 (ps_rV (fun s2 =>
        pl_nk (ps_is r1 8) (pl_nk (ps_is r1 8) (Q (some (.int 0)) (ps_ui s2 r1 10 ((1 : Int32) <<< ((ps_i s2 r1 2) &&& 31))))))))))))) ∧
  ((ps_i s r1 0) ≠ 10 →
    ((ps_i s r1 0) = 11 →
    pl_nk (ps_is r1 8) (pl_nk (ps_is r1 8) (pl_Cl n 95 [.ref (ps_c0 r1 6), .ref (ps_c0 r1 5)] s (ps_rV (fun s3 =>
      pl_Cl n 123 [.ref r1, .int x2] s3 (ps_rV (fun s4 =>
        Q (some (.int 0)) s4))))))) ∧
  ((ps_i s r1 0) ≠ 11 →
    ((ps_i s r1 0) = 12 →
    pl_nk (ps_is r1 8) (pl_Cl n 121 [.ref r1, .int 0] s (ps_rI (fun v5 s5 =>
      pl_Cl n 110 [.ref r3, .int v5] s5 (ps_rA (fun v6 s6 =>
        pl_Cl n 95 [.ref (ps_c0 r1 6), .ref v6] s6 (ps_rV (fun s7 =>
          pl_Cl n 121 [.ref r1, .int 0] s7 (ps_rI (fun v8 s8 =>
            pl_nk (ps_is r1 8) (Q (some (.int 0)) (ps_ui s8 r1 11 ((1 : Int32) <<< (v8 &&& 31)))))))))))))) ∧
  ((ps_i s r1 0) ≠ 12 →
    pl_nk (ps_is r1 8) (pl_nk (ps_is r1 8) (pl_nk (ps_is r1 8) (pl_Cl n 97 [.ref (ps_c0 r1 6), .int 6, .ref (ps_c0 r1 4), .ref (ps_c0 r1 4)] s (ps_rV (fun s9 =>
    Q (some (.int 0)) s9)))))))))) : pl_At (n + 1) 43 0 [(0, .ref r0), (1, .ref r1), (2, .int x2), (3, .ref r3)] [] s Q :=
  pl_wp_at (stops := []) (f := 61) h rfl

-- ProofBench$Proof.joinParts(LProofBench$Step;LProofBench$Row;)I
theorem pl_44_0 {n : Nat} {r0 : Nat} {r1 : Nat} {r2 : Nat} {s : ps_S} {Q : Option Value → ps_S → Prop} (h :
  pl_nk (ps_is r1 8) (((ps_i s r1 0) = 13 →
    pl_nk (ps_is r1 8) (pl_Cl n 37 [.ref r0, .ref r1, .int 1] s (ps_rA (fun v1 s1 =>
      pl_nk (ps_is v1 8) (pl_Cl n 97 [.ref (ps_c0 r1 6), .int 1, .ref r2, .ref (ps_c0 v1 6)] s1 (ps_rV (fun s2 =>
        Q (some (.int 0)) s2))))))) ∧
  ((ps_i s r1 0) ≠ 13 →
    ((ps_i s r1 0) = 14 →
    pl_nk (ps_is r1 8) (pl_nk (ps_is r1 8) (pl_Cl n 97 [.ref (ps_c0 r1 6), .int 3, .ref (ps_c0 r1 5), .ref r2] s (ps_rV (fun s3 =>
      pl_Cl n 38 [.ref r0, .int 0] s3 (ps_rA (fun v4 s4 =>
        pl_nk (ps_is r1 8) (pl_Cl n 95 [.ref v4, .ref (ps_c0 r1 5)] s4 (ps_rV (fun s5 =>
          Q (some (.int 0)) s5)))))))))) ∧
  ((ps_i s r1 0) ≠ 14 →
    ((ps_i s r1 0) = 15 →
    pl_nk (ps_is r1 8) (pl_nk (ps_is r1 8) (pl_Cl n 97 [.ref (ps_c0 r1 6), .int 3, .ref (ps_c0 r1 5), .ref r2] s (ps_rV (fun s6 =>
      pl_Cl n 38 [.ref r0, .int 0] s6 (ps_rA (fun v7 s7 =>
        pl_nk (ps_is r1 8) (pl_Cl n 95 [.ref v7, .ref (ps_c0 r1 5)] s7 (ps_rV (fun s8 =>
          Q (some (.int 0)) s8)))))))))) ∧
  ((ps_i s r1 0) ≠ 15 →
    ((ps_i s r1 0) = 16 →
    pl_nk (ps_is r1 8) (pl_nk (ps_is r1 8) (pl_Cl n 97 [.ref (ps_c0 r1 6), .int 2, .ref r2, .ref (ps_c0 r1 5)] s (ps_rV (fun s9 =>
      Q (some (.int 0)) s9))))) ∧
  ((ps_i s r1 0) ≠ 16 →
    ((ps_i s r1 0) = 17 →
    pl_nk (ps_is r1 8) (pl_nk (ps_is r1 8) (pl_Cl n 97 [.ref (ps_c0 r1 6), .int 2, .ref (ps_c0 r1 5), .ref r2] s (ps_rV (fun s10 =>
      Q (some (.int 0)) s10))))) ∧
  ((ps_i s r1 0) ≠ 17 →
    pl_nk (ps_is r1 8) (pl_nk (ps_is r1 8) (pl_Cl n 97 [.ref (ps_c0 r1 6), .int 3, .ref (ps_c0 r1 5), .ref r2] s (ps_rV (fun s11 =>
    pl_Cl n 38 [.ref r0, .int 0] s11 (ps_rA (fun v12 s12 =>
      pl_nk (ps_is r1 8) (pl_Cl n 95 [.ref v12, .ref (ps_c0 r1 5)] s12 (ps_rV (fun s13 =>
        Q (some (.int 0)) s13)))))))))))))))) : pl_At (n + 1) 44 0 [(0, .ref r0), (1, .ref r1), (2, .ref r2)] [] s Q :=
  pl_wp_at (stops := []) (f := 83) h rfl

-- ProofBench$Proof.takeHalf(LProofBench$Step;LProofBench$Row;)I
theorem pl_45_0 {n : Nat} {r0 : Nat} {r1 : Nat} {r2 : Nat} {s : ps_S} {Q : Option Value → ps_S → Prop} (h :
  pl_Cl n 92 [.ref r2, .int 0] s (ps_rI (fun v1 s1 =>
    (v1 = 1 →
      pl_nk (ps_is r0 2) (pl_nk (ps_is r0 2) (pl_Cl n 103 [.ref (ps_c0 r0 5), .ref r2, .ref (ps_r s1 r0 6)] s1 (ps_rV (fun s2 =>
        pl_nk (ps_is r0 2) (pl_Cl n 104 [.ref (ps_c0 r0 5), .int 1] s2 (ps_rI (fun v3 s3 =>
          pl_nk (ps_is r1 8) (((ps_i s3 r1 0) ≠ 14 →
            pl_nk (ps_is r1 8) (pl_nk (ps_is r2 5) (pl_Cl n 96 [.ref (ps_c0 r1 6), .ref r2, .int v3, .int (ps_i s3 r2 1)] s3 (ps_rV (fun s4 =>
              Q (some (.int 0)) s4))))) ∧
          ((ps_i s3 r1 0) = 14 →
            pl_nk (ps_is r1 8) (pl_Cl n 96 [.ref (ps_c0 r1 6), .ref r2, .int 1, .int v3] s3 (ps_rV (fun s5 =>
              Q (some (.int 0)) s5))))))))))))) ∧
    (v1 ≠ 1 →
      Q (some (.int 2)) s1)))) : pl_At (n + 1) 45 0 [(0, .ref r0), (1, .ref r1), (2, .ref r2)] [] s Q :=
  pl_wp_at (stops := []) (f := 42) h rfl

-- ProofBench$Proof.takeCases(LProofBench$Step;LProofBench$Row;)I
theorem pl_46_0 {n : Nat} {r0 : Nat} {r1 : Nat} {r2 : Nat} {s : ps_S} {Q : Option Value → ps_S → Prop} (h :
  pl_Cl n 37 [.ref r0, .ref r1, .int 1] s (ps_rA (fun v1 s1 =>
    pl_nk (ps_is v1 8) (pl_Cl n 92 [.ref r2, .int 0] s1 (ps_rI (fun v2 s2 =>
      (v2 ≠ 2 →
        Q (some (.int 2)) s2) ∧
      (v2 = 2 →
        pl_Cl n 37 [.ref r0, .ref r1, .int 2] s2 (ps_rA (fun v3 s3 =>
          pl_nk (ps_is v3 8) (pl_Cl n 98 [.ref (ps_c0 v1 6), .ref (ps_c0 v3 6)] s3 (ps_rI (fun v4 s4 =>
            (v4 ≠ 0 →
              pl_nk (ps_is r0 2) (pl_nk (ps_is r0 2) (pl_Cl n 103 [.ref (ps_c0 r0 5), .ref r2, .ref (ps_r s4 r0 6)] s4 (ps_rV (fun s5 =>
                pl_nk (ps_is r0 2) (pl_Cl n 104 [.ref (ps_c0 r0 5), .int 1] s5 (ps_rI (fun v6 s6 =>
                  pl_Cl n 38 [.ref r0, .int 1] s6 (ps_rA (fun v7 s7 =>
                    pl_Cl n 96 [.ref v7, .ref r2, .int 1, .int v6] s7 (ps_rV (fun s8 =>
                      pl_Cl n 38 [.ref r0, .int 2] s8 (ps_rA (fun v9 s9 =>
                        pl_nk (ps_is r2 5) (pl_Cl n 96 [.ref v9, .ref r2, .int v6, .int (ps_i s9 r2 1)] s9 (ps_rV (fun s10 =>
                          pl_nk (ps_is r1 8) (pl_Cl n 95 [.ref (ps_c0 r1 6), .ref (ps_c0 v1 6)] s10 (ps_rV (fun s11 =>
                            Q (some (.int 0)) s11)))))))))))))))))))) ∧
            (v4 = 0 →
              Q (some (.int 2)) s4))))))))))))) : pl_At (n + 1) 46 0 [(0, .ref r0), (1, .ref r1), (2, .ref r2)] [] s Q :=
  pl_wp_at (stops := []) (f := 57) h rfl

-- ProofBench$Proof.apply(LProofBench$Step;LProofBench$Row;LProofBench$Row;)I
theorem pl_47_0 {n : Nat} {r0 : Nat} {r1 : Nat} {r2 : Nat} {r3 : Nat} {s : ps_S} {Q : Option Value → ps_S → Prop} (h :
  pl_nk (ps_is r0 2) (pl_nk (ps_is r0 2) (pl_Cl n 103 [.ref (ps_c0 r0 5), .ref r2, .ref (ps_r s r0 6)] s (ps_rV (fun s1 =>
    pl_nk (ps_is r0 2) (pl_Cl n 104 [.ref (ps_c0 r0 5), .int 1] s1 (ps_rI (fun v2 s2 =>
      pl_Cl n 92 [.ref r2, .int 0] s2 (ps_rI (fun v3 s3 =>
        (v3 ≠ 3 →
          Q (some (.int 2)) s3) ∧
        (v3 = 3 →
          pl_nk (ps_is r3 5) (((v2 - 1) ≠ (ps_i s3 r3 1) →
            Q (some (.int 2)) s3) ∧
          ((v2 - 1) = (ps_i s3 r3 1) →
            pl_Cl n 99 [.ref r2, .int 1, .int v2, .ref r3, .int 0] s3 (ps_rI (fun v4 s4 =>
              (v4 ≠ 0 →
                pl_nk (ps_is r1 8) (pl_nk (ps_is r2 5) (pl_Cl n 96 [.ref (ps_c0 r1 6), .ref r2, .int v2, .int (ps_i s4 r2 1)] s4 (ps_rV (fun s5 =>
                  Q (some (.int 0)) s5))))) ∧
              (v4 = 0 →
                Q (some (.int 2)) s4)))))))))))))))) : pl_At (n + 1) 47 0 [(0, .ref r0), (1, .ref r1), (2, .ref r2), (3, .ref r3)] [] s Q :=
  pl_wp_at (stops := []) (f := 46) h rfl

-- ProofBench$Proof.fromFalse(LProofBench$Step;LProofBench$Row;)I
theorem pl_48_0 {n : Nat} {r0 : Nat} {r1 : Nat} {r2 : Nat} {s : ps_S} {Q : Option Value → ps_S → Prop} (h :
  pl_Cl n 92 [.ref r2, .int 0] s (ps_rI (fun v1 s1 =>
    (v1 = 0 →
      pl_nk (ps_is r1 8) (pl_nk (ps_is r1 8) (pl_Cl n 95 [.ref (ps_c0 r1 6), .ref (ps_c0 r1 5)] s1 (ps_rV (fun s2 =>
        pl_nk (ps_is r1 8) (((ps_i s2 r1 0) ≠ 27 →
          Q (some (.int 0)) s2) ∧
        ((ps_i s2 r1 0) = 27 →
          pl_Cl n 38 [.ref r0, .int 0] s2 (ps_rA (fun v3 s3 =>
            pl_Cl n 91 [.ref v3] s3 (ps_rV (fun s4 =>
              pl_Cl n 38 [.ref r0, .int 0] s4 (ps_rA (fun v5 s5 =>
                pl_Cl n 93 [.ref v5, .int 3] s5 (ps_rV (fun s6 =>
                  pl_Cl n 38 [.ref r0, .int 0] s6 (ps_rA (fun v7 s7 =>
                    pl_nk (ps_is r1 8) (pl_nk (ps_is r1 8) (pl_nk (ps_is (ps_c0 r1 5) 5) (pl_Cl n 94 [.ref v7, .ref (ps_c0 r1 5), .int 0, .int (ps_i s7 (ps_c0 r1 5) 1)] s7 (ps_rV (fun s8 =>
                      pl_Cl n 38 [.ref r0, .int 0] s8 (ps_rA (fun v9 s9 =>
                        pl_Cl n 93 [.ref v9, .int 0] s9 (ps_rV (fun s10 =>
                          Q (some (.int 0)) s10)))))))))))))))))))))))))) ∧
    (v1 ≠ 0 →
      Q (some (.int 2)) s1)))) : pl_At (n + 1) 48 0 [(0, .ref r0), (1, .ref r1), (2, .ref r2)] [] s Q :=
  pl_wp_at (stops := []) (f := 45) h rfl

-- ProofBench$Proof.specialise(LProofBench$Step;LProofBench$Row;)I
theorem pl_50_0 {n : Nat} {r0 : Nat} {r1 : Nat} {r2 : Nat} {s : ps_S} {Q : Option Value → ps_S → Prop} (h :
  pl_Cl n 92 [.ref r2, .int 0] s (ps_rI (fun v1 s1 =>
    (v1 = 4 →
      pl_nk (ps_is r1 8) (pl_nk (ps_is r1 8) (pl_Cl n 52 [.ref r0, .ref (ps_c0 r1 6), .ref r2, .ref (ps_c0 r1 4)] s1 (ps_rV (fun s2 =>
        Q (some (.int 0)) s2))))) ∧
    (v1 ≠ 4 →
      Q (some (.int 2)) s1)))) : pl_At (n + 1) 50 0 [(0, .ref r0), (1, .ref r1), (2, .ref r2)] [] s Q :=
  pl_wp_at (stops := []) (f := 18) h rfl

-- ProofBench$Proof.makeSome(LProofBench$Step;LProofBench$Row;)I
theorem pl_53_0 {n : Nat} {r0 : Nat} {r1 : Nat} {r2 : Nat} {s : ps_S} {Q : Option Value → ps_S → Prop} (h :
  pl_nk (ps_is r1 8) (pl_Cl n 92 [.ref (ps_c0 r1 5), .int 0] s (ps_rI (fun v1 s1 =>
    (v1 = 5 →
      pl_nk (ps_is r0 2) (pl_nk (ps_is r1 8) (pl_nk (ps_is r1 8) (pl_Cl n 52 [.ref r0, .ref (ps_c0 r0 4), .ref (ps_c0 r1 5), .ref (ps_c0 r1 4)] s1 (ps_rV (fun s2 =>
        pl_nk (ps_is r0 2) (pl_Cl n 98 [.ref (ps_c0 r0 4), .ref r2] s2 (ps_rI (fun v3 s3 =>
          (v3 ≠ 0 →
            pl_nk (ps_is r1 8) (pl_nk (ps_is r1 8) (pl_Cl n 95 [.ref (ps_c0 r1 6), .ref (ps_c0 r1 5)] s3 (ps_rV (fun s4 =>
              Q (some (.int 0)) s4))))) ∧
          (v3 = 0 →
            Q (some (.int 4)) s3)))))))))) ∧
    (v1 ≠ 5 →
      Q (some (.int 4)) s1))))) : pl_At (n + 1) 53 0 [(0, .ref r0), (1, .ref r1), (2, .ref r2)] [] s Q :=
  pl_wp_at (stops := []) (f := 32) h rfl

-- ProofBench$Proof.openSome(LProofBench$Step;LProofBench$Row;LProofBench$Step;)I
theorem pl_54_0 {n : Nat} {r0 : Nat} {r1 : Nat} {r2 : Nat} {r3 : Nat} {s : ps_S} {Q : Option Value → ps_S → Prop} (h :
  pl_Cl n 92 [.ref r2, .int 0] s (ps_rI (fun v1 s1 =>
    (v1 = 5 →
      pl_nk (ps_is r1 8) (pl_Cl n 91 [.ref (ps_c0 r1 4)] s1 (ps_rV (fun s2 =>
        pl_nk (ps_is r1 8) (pl_nk (ps_is r1 8) (pl_Cl n 93 [.ref (ps_c0 r1 4), .int (ps_i s2 r1 3)] s2 (ps_rV (fun s3 =>
          pl_Cl n 38 [.ref r0, .int 1] s3 (ps_rA (fun v4 s4 =>
            pl_nk (ps_is r1 8) (pl_Cl n 52 [.ref r0, .ref v4, .ref r2, .ref (ps_c0 r1 4)] s4 (ps_rV (fun s5 =>
              pl_nk (ps_is r1 8) (pl_Cl n 100 [.ref r2, .int (ps_i s5 r1 3)] s5 (ps_rI (fun v6 s6 =>
                (v6 ≠ 0 →
                  pl_At n 54 68 [(0, .ref r0), (1, .ref r1), (3, .ref r3)] [] s6 Q) ∧
                (v6 = 0 →
                  pl_nk (ps_is r3 8) (pl_nk (ps_is r1 8) (pl_Cl n 100 [.ref (ps_c0 r3 6), .int (ps_i s6 r1 3)] s6 (ps_rI (fun v7 s7 =>
                    (v7 = 0 →
                      ((0 : Int32) ≠ 0 →
                        Q (some (.int 3)) s7) ∧
                      ((0 : Int32) = 0 →
                        pl_nk (ps_is r1 8) (pl_Cl n 38 [.ref r0, .int 1] s7 (ps_rA (fun v8 s8 =>
                          pl_Cl n 51 [.ref r0, .ref r3, .int (ps_i s7 r1 3), .ref v8] s8 (ps_rI (fun v9 s9 =>
                            (v9 = 0 →
                              pl_nk (ps_is r1 8) (pl_nk (ps_is r3 8) (pl_Cl n 95 [.ref (ps_c0 r1 6), .ref (ps_c0 r3 6)] s9 (ps_rV (fun s10 =>
                                Q (some (.int 0)) s10))))) ∧
                            (v9 ≠ 0 →
                              Q (some (.int 3)) s9)))))))) ∧
                    (v7 ≠ 0 →
                      pl_At n 54 68 [(0, .ref r0), (1, .ref r1), (3, .ref r3)] [] s7 Q)))))))))))))))))))))) ∧
    (v1 ≠ 5 →
      Q (some (.int 2)) s1)))) : pl_At (n + 1) 54 0 [(0, .ref r0), (1, .ref r1), (2, .ref r2), (3, .ref r3)] [] s Q :=
  pl_wp_at (stops := [(68, [0, 1, 3])]) (f := 60) h rfl

theorem pl_54_68 {n : Nat} {r0 : Nat} {r1 : Nat} {r3 : Nat} {s : ps_S} {Q : Option Value → ps_S → Prop} (h :
  ((1 : Int32) ≠ 0 →
    Q (some (.int 3)) s) ∧
  ((1 : Int32) = 0 →
    pl_nk (ps_is r1 8) (pl_Cl n 38 [.ref r0, .int 1] s (ps_rA (fun v1 s1 =>
      pl_Cl n 51 [.ref r0, .ref r3, .int (ps_i s r1 3), .ref v1] s1 (ps_rI (fun v2 s2 =>
        (v2 = 0 →
          pl_nk (ps_is r1 8) (pl_nk (ps_is r3 8) (pl_Cl n 95 [.ref (ps_c0 r1 6), .ref (ps_c0 r3 6)] s2 (ps_rV (fun s3 =>
            Q (some (.int 0)) s3))))) ∧
        (v2 ≠ 0 →
          Q (some (.int 3)) s2)))))))) : pl_At (n + 1) 54 68 [(0, .ref r0), (1, .ref r1), (3, .ref r3)] [] s Q :=
  pl_wp_at (stops := [(68, [0, 1, 3])]) (f := 27) h rfl

-- ProofBench$Proof.exchange(LProofBench$Step;LProofBench$Row;LProofBench$Row;)I
theorem pl_55_0 {n : Nat} {r0 : Nat} {r1 : Nat} {r2 : Nat} {r3 : Nat} {s : ps_S} {Q : Option Value → ps_S → Prop} (h :
  pl_Cl n 92 [.ref r2, .int 0] s (ps_rI (fun v1 s1 =>
    (v1 = 6 →
      pl_nk (ps_is r1 8) (pl_Cl n 56 [.ref r0, .ref (ps_c0 r1 5), .ref r2, .ref r3] s1 (ps_rI (fun v2 s2 =>
        (v2 ≠ 0 →
          pl_nk (ps_is r1 8) (pl_nk (ps_is r1 8) (pl_Cl n 95 [.ref (ps_c0 r1 6), .ref (ps_c0 r1 5)] s2 (ps_rV (fun s3 =>
            Q (some (.int 0)) s3))))) ∧
        (v2 = 0 →
          Q (some (.int 4)) s2))))) ∧
    (v1 ≠ 6 →
      Q (some (.int 2)) s1)))) : pl_At (n + 1) 55 0 [(0, .ref r0), (1, .ref r1), (2, .ref r2), (3, .ref r3)] [] s Q :=
  pl_wp_at (stops := []) (f := 25) h rfl

/-- the i-th step as it was read, at the cell t -/
def cpT (s : ps_S) (t : Nat) (st : tp_P) : Prop := (ps_i s t 0).toInt = st.1.1 ∧ (1 ≤ tp_nn st.1.1 → (ps_a s (t + 1) 0).toInt = st.1.2.1) ∧ (2 ≤ tp_nn st.1.1 → (ps_a s (t + 1) 1).toInt = st.1.2.2.1) ∧ (3 ≤ tp_nn st.1.1 → (ps_a s (t + 1) 2).toInt = st.1.2.2.2) ∧ (st.1.1 = 10 → (ps_i s t 2).toInt = st.2.1.1) ∧ (tp_hx st.1.1 → (ps_i s t 3).toInt = (60 + st.2.1.2 : Nat)) ∧ (tp_ht st.1.1 → cv_W s (t + 2) st.2.2.1) ∧ (tp_hf st.1.1 → cv_W s (t + 4) st.2.2.2)
/-- its rule and its numbers -/
def cpN (s : ps_S) (t : Nat) (st : tp_P) : Prop := (ps_i s t 0).toInt = st.1.1 ∧ (1 ≤ tp_nn st.1.1 → (ps_a s (t + 1) 0).toInt = st.1.2.1) ∧ (2 ≤ tp_nn st.1.1 → (ps_a s (t + 1) 1).toInt = st.1.2.2.1) ∧ (3 ≤ tp_nn st.1.1 → (ps_a s (t + 1) 2).toInt = st.1.2.2.2)
theorem cpN_of {s : ps_S} {t : Nat} {st : tp_P} (h : cpT s t st) : cpN s t st := ⟨h.1, h.2.1, h.2.2.1, h.2.2.2.1⟩
theorem cpN_eq {s s' : ps_S} {t : Nat} {st : tp_P} (h : cpN s t st) (e0 : ps_i s' t 0 = ps_i s t 0) (e1 : ps_a s' (t + 1) = ps_a s (t + 1)) : cpN s' t st := by
  unfold cpN
  rw [e0, e1]
  exact h
/-- what a step came to -/
def cpR (s : ps_S) (t : Nat) (D : List tq_R) (R : tq_R) : Prop := cv_W s (t + 6) R.1 ∧ (ps_i s t 8).toInt = R.2.1.length ∧ R.2.1.length ≤ 12 ∧ (∀ (n : Nat) (y : List Nat), R.2.1[n]? = some y → ∃ (o : Nat) (q : tq_R), (ps_a s (t + 8) n).toInt = o ∧ D[o]? = some q ∧ q.1 = y) ∧ ps_i s t 10 = R.2.2.1 ∧ ps_i s t 11 = R.2.2.2.1 ∧ ps_j s t 12 = R.2.2.2.2
def cpD (s : ps_S) (p : Nat) (D : List tq_R) : Prop := D.length ≤ 40 ∧ ∀ (k : Nat) (R : tq_R), D[k]? = some R → cpR s (stc p k) D R
/-- a shelf of theorems -/
def cSh (s : ps_S) (q : Nat) (Θ : List tq_H) : Prop := (ps_i s q 5).toInt = Θ.length ∧ Θ.length ≤ 12 ∧ ∀ (k : Nat) (x : tq_H), Θ[k]? = some x → cv_W s (q + 7 + 2 * k) x.1 ∧ ps_a s (q + 4) k = x.2.1 ∧ ps_a s (q + 5) k = x.2.2.1 ∧ ps_a s (q + 6) k = x.2.2.2
theorem cpT_cfr {C : Nat → Prop} {s s' : ps_S} {t : Nat} {st : tp_P} (h : cpT s t st) (F : cfr C s s') (hC : ∀ q, t ≤ q → q ≤ t + 5 → ¬ C q) : cpT s' t st := by
  obtain ⟨h0, h1, h2, h3, h4, h5, h6, h7⟩ := h
  have f0 := F t (hC t (Nat.le_refl _) (by omega))
  have f1 := F (t + 1) (hC _ (by omega) (by omega))
  exact ⟨by rw [f0.1]; exact h0, fun z => by rw [f1.2.2.2.1]; exact h1 z, fun z => by rw [f1.2.2.2.1]; exact h2 z, fun z => by rw [f1.2.2.2.1]; exact h3 z, fun z => by rw [f0.1]; exact h4 z, fun z => by rw [f0.1]; exact h5 z, fun z => cv_W_cfr (h6 z) F (hC _ (by omega) (by omega)) (hC _ (by omega) (by omega)), fun z => cv_W_cfr (h7 z) F (hC _ (by omega) (by omega)) (hC _ (by omega) (by omega))⟩
theorem cpR_cfr {C : Nat → Prop} {s s' : ps_S} {t : Nat} {D : List tq_R} {R : tq_R} (h : cpR s t D R) (F : cfr C s s') (hC : ∀ q, t ≤ q → q ≤ t + 8 → ¬ C q) : cpR s' t D R := by
  obtain ⟨h0, h1, h2, h3, h4, h5, h6⟩ := h
  have f0 := F t (hC t (Nat.le_refl _) (by omega))
  have f8 := F (t + 8) (hC _ (by omega) (by omega))
  refine ⟨cv_W_cfr h0 F (hC _ (by omega) (by omega)) (hC _ (by omega) (by omega)), by rw [f0.1]; exact h1, h2, fun n y hy => ?_, by rw [f0.1]; exact h4, by rw [f0.1]; exact h5, by rw [f0.2.1]; exact h6⟩
  rw [f8.2.2.2.1]
  exact h3 n y hy
theorem cpD_cfr {C : Nat → Prop} {s s' : ps_S} {p : Nat} {D : List tq_R} (h : cpD s p D) (F : cfr C s s') (hC : ∀ q, stc p 0 ≤ q → q < stc p D.length → ¬ C q) : cpD s' p D := ⟨h.1, fun k R hk => cpR_cfr (h.2 k R hk) F (fun q a b => hC q (by unfold stc at *; omega) (by
  have := (List.getElem?_eq_some_iff.mp hk).1
  unfold stc at *
  omega))⟩
theorem cSh_cfr {C : Nat → Prop} {s s' : ps_S} {q : Nat} {Θ : List tq_H} (h : cSh s q Θ) (F : cfr C s s') (hC : ∀ r, q ≤ r → r ≤ q + 30 → ¬ C r) : cSh s' q Θ := by
  obtain ⟨h0, h1, h2⟩ := h
  have f0 := F q (hC q (Nat.le_refl _) (by omega))
  refine ⟨by rw [f0.1]; exact h0, h1, fun k x hk => ?_⟩
  have hkl := (List.getElem?_eq_some_iff.mp hk).1
  obtain ⟨g0, g1, g2, g3⟩ := h2 k x hk
  exact ⟨cv_W_cfr g0 F (hC _ (by omega) (by omega)) (hC _ (by omega) (by omega)), by rw [(F (q + 4) (hC _ (by omega) (by omega))).2.2.2.1]; exact g1, by rw [(F (q + 5) (hC _ (by omega) (by omega))).2.2.2.1]; exact g2, by rw [(F (q + 6) (hC _ (by omega) (by omega))).2.2.2.1]; exact g3⟩
/-- what a step may change -/
def CTO (p i q : Nat) : Prop := (stc p i ≤ q ∧ q ≤ stc p i + 8) ∨ (p + 404 ≤ q ∧ q ≤ p + 409) ∨ (p + 14 ≤ q ∧ q ≤ p + 19)
theorem stc_lt {p i : Nat} (hp : p = 50 ∨ p = 460) (hi : i < 40) : stc p i + 8 < p + 404 ∧ stc p i < 900 ∧ p + 44 ≤ stc p i := by
  unfold stc
  omega
theorem stc_is {p i : Nat} (hp : p = 50 ∨ p = 460) (hi : i < 40) : ps_is (stc p i) 8 = true := ((prf hp).1 i hi).2
theorem stc_row {p i : Nat} (hp : p = 50 ∨ p = 460) (hi : i < 40) : ps_is (stc p i + 2) 5 = true ∧ ps_is (stc p i + 4) 5 = true ∧ ps_is (stc p i + 6) 5 = true := (str (stc_is hp hi) (stc_lt hp hi).2.1).2.2
theorem stc_c {p i : Nat} (hp : p = 50 ∨ p = 460) (hi : i < 40) : ps_c0 (stc p i) 1 = stc p i + 1 ∧ ps_c0 (stc p i) 4 = stc p i + 2 ∧ ps_c0 (stc p i) 5 = stc p i + 4 ∧ ps_c0 (stc p i) 6 = stc p i + 6 ∧ ps_c0 (stc p i) 7 = stc p i + 8 := (str (stc_is hp hi) (stc_lt hp hi).2.1).1
/-! what is assumed, as it is gathered -/
def PA (s : ps_S) (t : Nat) (D : List tq_R) (A : List (List Nat)) : Prop := (ps_i s t 8).toInt = (min A.length 12 : Nat) ∧ A.length ≤ 13 ∧ (A.length ≤ 12 → ps_i s t 9 = 0) ∧ (12 < A.length → ps_i s t 9 ≠ 0) ∧ ∀ (n : Nat) (y : List Nat), n < 12 → A[n]? = some y → ∃ (o : Nat) (q : tq_R), (ps_a s (t + 8) n).toInt = o ∧ D[o]? = some q ∧ q.1 = y
section GAT
variable {p i : Nat} {D : List tq_R} {A : List (List Nat)} {s : ps_S}
theorem fs_40_2 {r2 : Nat} {y : List Nat} {R : Int32 → ps_S → Prop} (hp : p = 50 ∨ p = 460) (hi : i < 40) (hD : cpD s p D) (hDi : D.length ≤ i) (hA : PA s (stc p i) D A) (h5 : ps_is r2 5 = true) (W : cv_W s r2 y) (k1 : y ∈ A → R 1 s) (k0 : ¬ y ∈ A.take 12 → R 0 s) : ∀ (n : Nat) {x3 : Int32} {m : Nat}, x3.toInt = m → (∀ j, j < m → (A.take 12)[j]? ≠ some y) → pl_At n 40 2 [(0, .ref p), (1, .ref (stc p i)), (2, .ref r2), (3, .int x3)] [] s (ps_rI R)
  | 0, _, _, _, _ => pl_At_0
  | n + 1, x3, m, hx, hj => by
    obtain ⟨a1, a2, a3, a4, a5⟩ := id hA
    refine pl_40_2 (pl_nk_i (fun _ => ⟨fun z => k0 (fun w => ?_), fun z => ?_⟩))
    · have z := xle z
      obtain ⟨j, hj2⟩ := List.mem_iff_getElem?.mp w
      have := (List.getElem?_eq_some_iff.mp hj2).1
      rw [List.length_take] at this
      exact hj j (by omega) hj2
    · have z := xlt z
      have hm : m < min A.length 12 := by omega
      obtain ⟨w, hw⟩ : ∃ w, A[m]? = some w := ⟨_, List.getElem?_eq_getElem (by omega)⟩
      obtain ⟨oo, q, e1, e2, e3⟩ := a5 m w (by omega) hw
      have hol := (List.getElem?_eq_some_iff.mp e2).1
      have ho := hD.2 oo q e2
      have hl := stc_lt hp (i := oo) (by omega)
      refine fs_122 (stc_is hp hi) (stc_lt hp hi).2.1 hx (by omega) (by rw [a1]; omega) ?_
      refine fs_33 hp e1 (by omega) (pl_nk_i (fun _ => ?_))
      rw [(stc_c hp (i := oo) (by omega)).2.2.2.1]
      refine fs_98 (stc_row hp (i := oo) (by omega)).2.2 h5 (CW_of ho.1) (CW_of W) (Or.inl ho.1.2.2.1) (fun e => ⟨fun u => absurd u (by decide), fun _ => ?_⟩) (fun e => ⟨fun _ => ?_, fun u => absurd rfl u⟩)
      · refine k1 ?_
        rw [← e, e3]
        exact List.mem_of_getElem? hw
      · refine fs_40_2 hp hi hD hDi hA h5 W k1 k0 n (xj1 hx (by omega)) (fun j hj2 => ?_)
        rcases Nat.lt_or_ge j m with u | u
        · exact hj j u
        · rw [show j = m from by omega, List.getElem?_take, if_pos (by omega), hw]
          intro e2
          cases e2
          exact e e3
theorem fs_40 {n r2 : Nat} {y : List Nat} {R : Int32 → ps_S → Prop} (hp : p = 50 ∨ p = 460) (hi : i < 40) (hD : cpD s p D) (hDi : D.length ≤ i) (hA : PA s (stc p i) D A) (h5 : ps_is r2 5 = true) (W : cv_W s r2 y) (k1 : y ∈ A → R 1 s) (k0 : ¬ y ∈ A.take 12 → R 0 s) : pl_Cl n 40 [.ref p, .ref (stc p i), .ref r2] s (ps_rI R) := by
  cases n with
  | zero => exact pl_At_0
  | succ n =>
  show pl_At (n + 1) 40 0 [(0, .ref p), (1, .ref (stc p i)), (2, .ref r2)] [] s (ps_rI R)
  exact pl_40_0 (fs_40_2 hp hi hD hDi hA h5 W k1 k0 n (m := 0) rfl (fun j hj => absurd hj (Nat.not_lt_zero _)))
end GAT
/-- cells of the step itself -/
def CST (p i q : Nat) : Prop := q = stc p i ∨ q = stc p i + 8
theorem PA_add {s : ps_S} {p i oo : Nat} {D : List tq_R} {A : List (List Nat)} {y : List Nat} {q : tq_R} {v : Int32} (hA : PA s (stc p i) D A) (hv : v.toInt = oo) (hD : D[oo]? = some q) (hq : q.1 = y) : (A.length < 12 → PA (ps_ui (ps_ua s (stc p i + 8) A.length v) (stc p i) 8 (ps_i s (stc p i) 8 + 1)) (stc p i) D (A ++ [y])) ∧ (12 ≤ A.length → PA (ps_ui s (stc p i) 9 1) (stc p i) D (if 12 < A.length then A else A ++ [y])) := by
  obtain ⟨a1, a2, a3, a4, a5⟩ := hA
  have hlen : (A ++ [y]).length = A.length + 1 := List.length_append
  refine ⟨fun h => ⟨?_, by omega, fun _ => ?_, fun z => by omega, fun n w hn hw => ?_⟩, fun h => ⟨?_, by split <;> omega, fun z => ?_, fun _ => ?_, fun n w hn hw => ?_⟩⟩
  · rw [ps_i_ui, if_pos ⟨rfl, rfl⟩, xj1 a1 (by omega), hlen]
    omega
  · rw [ps_i_ui, if_neg (by omega)]
    exact a3 (by omega)
  · show ∃ (o : Nat) (q : tq_R), (ps_a (ps_ua s (stc p i + 8) A.length v) (stc p i + 8) n).toInt = o ∧ _
    rw [ps_a_ua]
    rcases Nat.lt_or_ge n A.length with u | u
    · rw [if_neg (by omega)]
      rw [List.getElem?_append_left u] at hw
      exact a5 n w hn hw
    · have := (List.getElem?_eq_some_iff.mp hw).1
      have e : n = A.length := by omega
      rw [if_pos ⟨rfl, e⟩]
      rw [e, List.getElem?_append_right (Nat.le_refl _), Nat.sub_self] at hw
      cases hw
      exact ⟨oo, q, hv, hD, hq⟩
  · rw [ps_i_ui, if_neg (by omega), a1]
    split <;> omega
  · split at z <;> omega
  · rw [ps_i_ui, if_pos ⟨rfl, rfl⟩]
    decide
  · show ∃ (o : Nat) (q : tq_R), (ps_a s (stc p i + 8) n).toInt = o ∧ _
    refine a5 n w hn ?_
    split at hw
    · exact hw
    · rw [List.getElem?_append_left (by omega)] at hw
      exact hw
/-- what gathering may change -/
def GQ (p i : Nat) (s s' : ps_S) : Prop := cfr (CST p i) s s' ∧ (∀ f, f ≠ 8 → f ≠ 9 → ps_i s' (stc p i) f = ps_i s (stc p i) f) ∧ ps_j s' (stc p i) = ps_j s (stc p i)
theorem GQ_refl {p i : Nat} {s : ps_S} : GQ p i s s := ⟨cfr_refl, fun _ _ _ => rfl, rfl⟩
theorem GQ_8 {p i m : Nat} {v w : Int32} {s s' : ps_S} (F : GQ p i s s') : GQ p i s (ps_ui (ps_ua s' (stc p i + 8) m v) (stc p i) 8 w) := ⟨cfr_i (cfr_a F.1 (Or.inr rfl)) (Or.inl rfl), fun f h8 h9 => by
  rw [ps_i_ui, if_neg (by omega)]
  exact F.2.1 f h8 h9, F.2.2⟩
theorem GQ_9 {p i : Nat} {w : Int32} {s s' : ps_S} (F : GQ p i s s') : GQ p i s (ps_ui s' (stc p i) 9 w) := ⟨cfr_i F.1 (Or.inl rfl), fun f h8 h9 => by
  rw [ps_i_ui, if_neg (by omega)]
  exact F.2.1 f h8 h9, F.2.2⟩
section GA2
variable {p i j r3 : Nat} {D : List tq_R} {Rj : tq_R} {oo : List Nat} {s0 : ps_S}
theorem fs_39_3 {R : ps_S → Prop} (hp : p = 50 ∨ p = 460) (hi : i < 40) (hD0 : cpD s0 p D) (hDi : D.length ≤ i) (hj : D[j]? = some Rj) (h5 : ps_is r3 5 = true) (W0 : CW s0 r3 oo) (hr3 : r3 ≠ stc p i ∧ r3 ≠ stc p i + 8 ∧ r3 + 1 ≠ stc p i ∧ r3 + 1 ≠ stc p i + 8) {A0 : List (List Nat)} (k : ∀ s', PA s' (stc p i) D (tq_ga oo A0 Rj.2.1) → GQ p i s0 s' → R s') : ∀ (n : Nat) {s : ps_S} {x4 : Int32} {m : Nat} {A : List (List Nat)}, x4.toInt = m → m ≤ Rj.2.1.length → PA s (stc p i) D A → tq_ga oo A0 Rj.2.1 = tq_ga oo A (Rj.2.1.drop m) → GQ p i s0 s → pl_At n 39 3 [(0, .ref p), (1, .ref (stc p i)), (2, .ref (stc p j)), (3, .ref r3), (4, .int x4)] [] s (ps_rV R)
  | 0, _, _, _, _, _, _, _, _, _ => pl_At_0
  | n + 1, s, x4, m, A, hx, hm, hA, hga, F => by
    have hjl := (List.getElem?_eq_some_iff.mp hj).1
    have hDF : cpD s p D := cpD_cfr hD0 F.1 (fun q a b => by unfold CST; unfold stc at *; omega)
    have hRj := hDF.2 j Rj hj
    have W : CW s r3 oo := by
      obtain ⟨w1, w2, w3⟩ := W0
      have f := F.1 r3 (by unfold CST; omega)
      exact ⟨by rw [f.1]; exact w1, fun z => cv_W_cfr (w2 z) F.1 (by unfold CST; omega) (by unfold CST; omega), fun z => by rw [f.1]; exact w3 z⟩
    have hsz := hRj.2.1
    have h12 := hRj.2.2.1
    refine pl_39_3 (pl_nk_i (fun _ => ⟨fun z => ?_, fun z => ?_⟩))
    · have z := xle z
      rw [List.drop_of_length_le (by omega)] at hga
      exact k s (by rw [hga]; exact hA) F
    · have z := xlt z
      obtain ⟨y, hy⟩ : ∃ y, Rj.2.1[m]? = some y := ⟨_, List.getElem?_eq_getElem (by omega)⟩
      obtain ⟨o2, q, e1, e2, e3⟩ := hRj.2.2.2.1 m y hy
      have hol := (List.getElem?_eq_some_iff.mp e2).1
      have ho := hDF.2 o2 q e2
      have hdr : Rj.2.1.drop m = y :: Rj.2.1.drop (m + 1) := by
        obtain ⟨hh, ee⟩ := List.getElem?_eq_some_iff.mp hy
        rw [List.drop_eq_getElem_cons hh, ee]
      rw [hdr] at hga
      have hga : tq_ga oo A0 Rj.2.1 = tq_ga oo (if 12 < A.length ∨ y = oo ∨ y ∈ A then A else A ++ [y]) (Rj.2.1.drop (m + 1)) := hga
      refine fs_122 (stc_is hp (i := j) (by omega)) (stc_lt hp (i := j) (by omega)).2.1 hx (by omega) (by rw [hsz]; omega) ?_
      refine fs_33 hp e1 (by omega) (pl_nk_i (fun _ => ?_))
      rw [(stc_c hp (i := o2) (by omega)).2.2.2.1]
      have W1 : cv_W s (stc p o2 + 6) y := by rw [← e3]; exact ho.1
      refine fs_98 (stc_row hp (i := o2) (by omega)).2.2 h5 (CW_of W1) W (Or.inl W1.2.2.1) (fun e => ⟨fun _ => ?_, fun u => absurd u (by decide)⟩) (fun e => ⟨fun u => absurd rfl u, fun _ => ?_⟩)
      · rw [if_pos (Or.inr (Or.inl e))] at hga
        exact fs_39_3 hp hi hD0 hDi hj h5 W0 hr3 k n (xj1 hx (by omega)) (by omega) hA hga F
      · refine fs_40 hp hi hDF hDi hA (stc_row hp (i := o2) (by omega)).2.2 W1 (fun u => ⟨fun _ => ?_, fun v => absurd v (by decide)⟩) (fun u => ⟨fun v => absurd rfl v, fun _ => ?_⟩)
        · rw [if_pos (Or.inr (Or.inr u))] at hga
          exact fs_39_3 hp hi hD0 hDi hj h5 W0 hr3 k n (xj1 hx (by omega)) (by omega) hA hga F
        · obtain ⟨g1, g2⟩ := PA_add hA e1 e2 e3
          refine fs_123 (m := min A.length 12) (stc_is hp hi) (stc_lt hp hi).2.1 hA.1 (fun v => ?_) (fun v => ?_)
          · have hlt : A.length < 12 := by omega
            have em : min A.length 12 = A.length := by omega
            have hna : ¬ y ∈ A := fun w => u (by rw [List.take_of_length_le (by omega)]; exact w)
            rw [if_neg (by intro w; rcases w with w | w | w; omega; exact e w; exact hna w)] at hga
            rw [em]
            exact fs_39_3 hp hi hD0 hDi hj h5 W0 hr3 k n (xj1 hx (by omega)) (by omega) (g1 hlt) hga (GQ_8 F)
          · have hge : 12 ≤ A.length := by omega
            have hga2 : tq_ga oo A0 Rj.2.1 = tq_ga oo (if 12 < A.length then A else A ++ [y]) (Rj.2.1.drop (m + 1)) := by
              rw [hga]
              by_cases w : 12 < A.length
              · rw [if_pos (Or.inl w), if_pos w]
              · have hna : ¬ y ∈ A := fun w2 => u (by rw [List.take_of_length_le (by omega)]; exact w2)
                rw [if_neg w, if_neg (by intro w3; rcases w3 with w3 | w3 | w3; exact w w3; exact e w3; exact hna w3)]
            exact fs_39_3 hp hi hD0 hDi hj h5 W0 hr3 k n (xj1 hx (by omega)) (by omega) (g2 hge) hga2 (GQ_9 F)
theorem fs_39 {n : Nat} {A : List (List Nat)} {R : ps_S → Prop} (hp : p = 50 ∨ p = 460) (hi : i < 40) (hD0 : cpD s0 p D) (hDi : D.length ≤ i) (hj : D[j]? = some Rj) (h5 : ps_is r3 5 = true) (W0 : CW s0 r3 oo) (hr3 : r3 ≠ stc p i ∧ r3 ≠ stc p i + 8 ∧ r3 + 1 ≠ stc p i ∧ r3 + 1 ≠ stc p i + 8) (hA : PA s0 (stc p i) D A) (k : ∀ s', PA s' (stc p i) D (tq_ga oo A Rj.2.1) → GQ p i s0 s' → R s') : pl_Cl n 39 [.ref p, .ref (stc p i), .ref (stc p j), .ref r3] s0 (ps_rV R) := by
  cases n with
  | zero => exact pl_At_0
  | succ n =>
  show pl_At (n + 1) 39 0 [(0, .ref p), (1, .ref (stc p i)), (2, .ref (stc p j)), (3, .ref r3)] [] s0 (ps_rV R)
  exact pl_39_0 (fs_39_3 hp hi hD0 hDi hj h5 W0 hr3 k n (m := 0) rfl (Nat.zero_le _) hA rfl GQ_refl)
end GA2
/-! a premise, as the step names it -/
section MAK
variable {p th : Nat} {h : tx_H} {Θ : List tq_H} {D : List tq_R} {st : tp_P} {s : ps_S}
/-- all that a step rests on -/
def cpX (s : ps_S) (p th : Nat) (h : tx_H) (Θ : List tq_H) (D : List tq_R) (st : tp_P) : Prop := (cv_H s th h ∧ ps_r s p 6 = th ∧ (th = 2 ∨ th = 26)) ∧ cSh s 870 Θ ∧ cpD s p D ∧ cpT s (stc p D.length) st ∧ cv_W s (p + 12) []
theorem cpX_cfr {C : Nat → Prop} {s' : ps_S} (hp : p = 50 ∨ p = 460) (h39 : D.length < 40) (X : cpX s p th h Θ D st) (F : cfr C s s') (hC : ∀ q, C q → stc p D.length + 6 ≤ q ∧ q ≤ p + 409 ∨ p + 14 ≤ q ∧ q ≤ p + 19) : cpX s' p th h Θ D st := by
  obtain ⟨⟨x1, x2, x3⟩, x4, x5, x6, x7⟩ := X
  have hl := stc_lt hp h39
  have h8 := x1.2.2.1
  have nC : ∀ q, ¬ (stc p D.length + 6 ≤ q ∧ q ≤ p + 409 ∨ p + 14 ≤ q ∧ q ≤ p + 19) → ¬ C q := fun q a b => a (hC q b)
  exact ⟨⟨cv_H_cfr x1 F (fun q a b => nC q (by omega)), by rw [(F p (nC p (by omega))).2.2.1]; exact x2, x3⟩, cSh_cfr x4 F (fun q a b => nC q (by omega)), cpD_cfr x5 F (fun q a b => nC q (by unfold stc at *; omega)), cpT_cfr x6 F (fun q a b => nC q (by omega)), cv_W_cfr x7 F (nC _ (by omega)) (nC _ (by omega))⟩
theorem prem_1 (X : cpX s p th h Θ D st) (hD : tq_GD h.1 D) {k : Nat} (hk : k < D.length) : ∃ R, D[k]? = some R ∧ tq_r D k = R.1 ∧ tq_a D k = R.2.1 ∧ cpR s (stc p k) D R ∧ tq_G h.1 R := by
  obtain ⟨R, e1, e2, e3, e4⟩ := tq_at hk
  exact ⟨R, e1, e2, e3, X.2.2.1.2 k R e1, hD k R e1⟩
theorem head_at {l : List Nat} : l.head? = l[0]? := by cases l <;> rfl
/-- the head of a row -/
theorem fs_92h {n r : Nat} {s : ps_S} {l : List Nat} {c : Nat} {R : Int32 → ps_S → Prop} (hr : ps_is r 5 = true) (W : cv_W s r l) (k1 : ∀ v : Int32, l.head? = some c → v.toInt = c → R v s) (k0 : ∀ v : Int32, l.head? ≠ some c → v.toInt ≠ c → R v s) : pl_Cl n 92 [.ref r, .int 0] s (ps_rI R) := by
  refine fs_92o (i := 0) hr W rfl (fun v q => ?_)
  rcases q with ⟨d, hd, e⟩ | ⟨hd, e⟩
  · rw [← head_at] at hd
    by_cases y : d = c
    · exact k1 v (by rw [hd, y]) (by rw [e, y])
    · exact k0 v (by rw [hd]; exact fun w => y (Option.some.inj w)) (by omega)
  · rw [← head_at] at hd
    exact k0 v (by rw [hd]; exact fun w => by cases w) (by omega)
end MAK

