set_option maxRecDepth 100000
/-! the class's reader: a theory's text -/
-- ProofBench$Theory.axiomOf(J)I
theorem pl_129_0 {n : Nat} {r0 : Nat} {l1 : Int64} {s : ps_S} {Q : Option Value → ps_S → Prop} (h :
  pl_nk (ps_is r0 9) (pl_nk (ps_is r0 9) (pl_Cl n 131 [.ref (ps_c0 r0 2), .int (ps_i s r0 8), .long l1] s (ps_rI (fun v1 s1 =>
    Q (some (.int v1)) s1))))) : pl_At (n + 1) 129 0 [(0, .ref r0), (1, .long l1)] [] s Q :=
  pl_wp_at (stops := []) (f := 9) h rfl

-- ProofBench$Theory.clear()V
theorem pl_126_0 {n : Nat} {r0 : Nat} {s : ps_S} {Q : Option Value → ps_S → Prop} (h :
  pl_nk (ps_is r0 9) (pl_nk (ps_is r0 9) (pl_nk (ps_is r0 9) (Q none (ps_ui (ps_ui (ps_ui s r0 6 0) r0 7 0) r0 8 0))))) : pl_At (n + 1) 126 0 [(0, .ref r0)] [] s Q :=
  pl_wp_at (stops := []) (f := 12) h rfl

-- ProofBench$Theory.isFull(I)Z
theorem pl_132_0 {n : Nat} {r0 : Nat} {x1 : Int32} {s : ps_S} {Q : Option Value → ps_S → Prop} (h :
  (x1 = 8 →
    pl_nk (ps_is r0 9) (((ps_i s r0 6) < 6 →
      Q (some (.int 0)) s) ∧
    (6 ≤ (ps_i s r0 6) →
      Q (some (.int 1)) s))) ∧
  (x1 ≠ 8 →
    (x1 = 9 →
    pl_nk (ps_is r0 9) (((ps_i s r0 7) < 4 →
      Q (some (.int 0)) s) ∧
    (4 ≤ (ps_i s r0 7) →
      Q (some (.int 1)) s))) ∧
  (x1 ≠ 9 →
    pl_nk (ps_is r0 9) (((ps_i s r0 8) < 8 →
    Q (some (.int 0)) s) ∧
  (8 ≤ (ps_i s r0 8) →
    Q (some (.int 1)) s))))) : pl_At (n + 1) 132 0 [(0, .ref r0), (1, .int x1)] [] s Q :=
  pl_wp_at (stops := []) (f := 31) h rfl

-- ProofBench.putAt([III)V
theorem pl_183_0 {n : Nat} {r0 : Nat} {x1 : Int32} {x2 : Int32} {s : ps_S} {Q : Option Value → ps_S → Prop} (h :
  (x1 < 0 →
    Q none s) ∧
  (0 ≤ x1 →
    pl_nk (Nat.beq (ps_K r0).1 0) (((nI (ps_ln r0)) ≤ x1 →
      Q none s) ∧
    (x1 < (nI (ps_ln r0)) →
      pl_nk (ps_ar r0 0) ((pm_in x1 (ps_ln r0) = true →
        Q none (ps_ua s r0 (Int32.toNatClampNeg x1) x2))))))) : pl_At (n + 1) 183 0 [(0, .ref r0), (1, .int x1), (2, .int x2)] [] s Q :=
  pl_wp_at (stops := []) (f := 15) h rfl

-- ProofBench$Theory.addSymbol(IJI)V
theorem pl_133_0 {n : Nat} {r0 : Nat} {x1 : Int32} {l2 : Int64} {x4 : Int32} {s : ps_S} {Q : Option Value → ps_S → Prop} (h :
  (x1 ≠ 8 →
    pl_At n 133 61 [(0, .ref r0), (1, .int x1), (2, .long l2), (4, .int x4)] [] s Q) ∧
  (x1 = 8 →
    pl_nk (ps_is r0 9) (((ps_i s r0 6) < 0 →
      pl_At n 133 61 [(0, .ref r0), (1, .int x1), (2, .long l2), (4, .int x4)] [] s Q) ∧
    (0 ≤ (ps_i s r0 6) →
      pl_nk (ps_is r0 9) (pl_nk (ps_is r0 9) (pl_nk (Nat.beq (ps_K (ps_c0 r0 0)).1 0) (((nI (ps_ln (ps_c0 r0 0))) ≤ (ps_i s r0 6) →
        pl_At n 133 61 [(0, .ref r0), (1, .int x1), (2, .long l2), (4, .int x4)] [] s Q) ∧
      ((ps_i s r0 6) < (nI (ps_ln (ps_c0 r0 0))) →
        pl_nk (ps_is r0 9) (pl_nk (ps_is r0 9) (pl_Cl n 183 [.ref (ps_c0 r0 3), .int ((10 : Int32) + (ps_i s r0 6)), .int x4] s (ps_rV (fun s1 =>
          pl_nk (ps_is r0 9) (pl_nk (ps_is r0 9) (pl_nk (ps_ar (ps_c0 r0 0) 3) ((pm_in (ps_i s1 r0 6) (ps_ln (ps_c0 r0 0)) = true →
            pl_nk (ps_is r0 9) (pl_nk (ps_is r0 9) (pl_At n 133 61 [(0, .ref r0), (1, .int x1), (2, .long l2), (4, .int x4)] [] (ps_ui (ps_ub s1 (ps_c0 r0 0) (Int32.toNatClampNeg (ps_i s1 r0 6)) l2) r0 6 ((ps_i (ps_ub s1 (ps_c0 r0 0) (Int32.toNatClampNeg (ps_i s1 r0 6)) l2) r0 6) + 1)) Q)))))))))))))))))) : pl_At (n + 1) 133 0 [(0, .ref r0), (1, .int x1), (2, .long l2), (4, .int x4)] [] s Q :=
  pl_wp_at (stops := [(61, [0, 1, 2, 4])]) (f := 34) h rfl

theorem pl_133_61 {n : Nat} {r0 : Nat} {x1 : Int32} {l2 : Int64} {x4 : Int32} {s : ps_S} {Q : Option Value → ps_S → Prop} (h :
  (x1 ≠ 9 →
    Q none s) ∧
  (x1 = 9 →
    pl_nk (ps_is r0 9) (((ps_i s r0 7) < 0 →
      Q none s) ∧
    (0 ≤ (ps_i s r0 7) →
      pl_nk (ps_is r0 9) (pl_nk (ps_is r0 9) (pl_nk (Nat.beq (ps_K (ps_c0 r0 1)).1 0) (((nI (ps_ln (ps_c0 r0 1))) ≤ (ps_i s r0 7) →
        Q none s) ∧
      ((ps_i s r0 7) < (nI (ps_ln (ps_c0 r0 1))) →
        pl_nk (ps_is r0 9) (pl_nk (ps_is r0 9) (pl_Cl n 183 [.ref (ps_c0 r0 3), .int ((20 : Int32) + (ps_i s r0 7)), .int x4] s (ps_rV (fun s1 =>
          pl_nk (ps_is r0 9) (pl_nk (ps_is r0 9) (pl_nk (ps_ar (ps_c0 r0 1) 3) ((pm_in (ps_i s1 r0 7) (ps_ln (ps_c0 r0 1)) = true →
            pl_nk (ps_is r0 9) (pl_nk (ps_is r0 9) (Q none (ps_ui (ps_ub s1 (ps_c0 r0 1) (Int32.toNatClampNeg (ps_i s1 r0 7)) l2) r0 7 ((ps_i (ps_ub s1 (ps_c0 r0 1) (Int32.toNatClampNeg (ps_i s1 r0 7)) l2) r0 7) + 1)))))))))))))))))))) : pl_At (n + 1) 133 61 [(0, .ref r0), (1, .int x1), (2, .long l2), (4, .int x4)] [] s Q :=
  pl_wp_at (stops := [(61, [0, 1, 2, 4])]) (f := 38) h rfl

-- ProofBench$Theory.addAxiom(J)V
theorem pl_134_0 {n : Nat} {r0 : Nat} {l1 : Int64} {s : ps_S} {Q : Option Value → ps_S → Prop} (h :
  pl_nk (ps_is r0 9) (((ps_i s r0 8) < 0 →
    Q none s) ∧
  (0 ≤ (ps_i s r0 8) →
    pl_nk (ps_is r0 9) (pl_nk (ps_is r0 9) (pl_nk (Nat.beq (ps_K (ps_c0 r0 2)).1 0) (((nI (ps_ln (ps_c0 r0 2))) ≤ (ps_i s r0 8) →
      Q none s) ∧
    ((ps_i s r0 8) < (nI (ps_ln (ps_c0 r0 2))) →
      pl_nk (ps_is r0 9) (pl_nk (ps_is r0 9) (pl_nk (ps_ar (ps_c0 r0 2) 3) ((pm_in (ps_i s r0 8) (ps_ln (ps_c0 r0 2)) = true →
        pl_nk (ps_is r0 9) (pl_nk (ps_is r0 9) (Q none (ps_ui (ps_ub s (ps_c0 r0 2) (Int32.toNatClampNeg (ps_i s r0 8)) l1) r0 8 ((ps_i (ps_ub s (ps_c0 r0 2) (Int32.toNatClampNeg (ps_i s r0 8)) l1) r0 8) + 1))))))))))))))) : pl_At (n + 1) 134 0 [(0, .ref r0), (1, .long l1)] [] s Q :=
  pl_wp_at (stops := []) (f := 26) h rfl

-- ProofBench$Theory.axiomRow(I)LProofBench$Row;
theorem pl_135_0 {n : Nat} {r0 : Nat} {x1 : Int32} {s : ps_S} {Q : Option Value → ps_S → Prop} (h :
  (x1 < 0 →
    pl_nk (ps_is r0 9) (Q (some (.ref (ps_c0 r0 5))) s)) ∧
  (0 ≤ x1 →
    pl_nk (ps_is r0 9) (pl_nk (Nat.beq (ps_K (ps_c0 r0 4)).1 0) (((nI (ps_ln (ps_c0 r0 4))) ≤ x1 →
      pl_nk (ps_is r0 9) (Q (some (.ref (ps_c0 r0 5))) s)) ∧
    (x1 < (nI (ps_ln (ps_c0 r0 4))) →
      pl_nk (ps_is r0 9) (pl_nk (ps_ar (ps_c0 r0 4) 4 || ps_ar (ps_c0 r0 4) 5 || ps_ar (ps_c0 r0 4) 6 || ps_ar (ps_c0 r0 4) 7) ((pm_in x1 (ps_ln (ps_c0 r0 4)) = true →
        Q (some (.ref (ps_e0 (ps_c0 r0 4) (Int32.toNatClampNeg x1)))) s)))))))) : pl_At (n + 1) 135 0 [(0, .ref r0), (1, .int x1)] [] s Q :=
  pl_wp_at (stops := []) (f := 21) h rfl

-- ProofBench$Reader.takeWhole(LProofBench$Row;Z)Z
theorem pl_69_0 {n : Nat} {r1 : Nat} {x2 : Int32} {s : ps_S} {Q : Option Value → ps_S → Prop} (h :
  pl_Cl n 91 [.ref (ps_r (ps_ur s 902 6 r1) 902 6)] (ps_ur s 902 6 r1) (ps_rV (fun s1 =>
    (x2 = 0 →
      pl_Cl n 70 [.ref 902, .int 0] (ps_ui s1 902 7 0) (ps_rI (fun v2 s2 =>
        pl_nk (decide (v2 &&& 1 = v2)) (Q (some (.int v2)) s2)))) ∧
    (x2 ≠ 0 →
      pl_Cl n 76 [.ref 902, .int 0] (ps_ui s1 902 7 0) (ps_rI (fun v3 s3 =>
        pl_nk (decide (v3 &&& 1 = v3)) (Q (some (.int v3)) s3))))))) : pl_At (n + 1) 69 0 [(0, .ref 902), (1, .ref r1), (2, .int x2)] [] s Q :=
  pl_wp_at (stops := []) (f := 22) h rfl

-- ProofBench$Reader.takeSemicolon()Z
theorem pl_65_0 {n : Nat} {s : ps_S} {Q : Option Value → ps_S → Prop} (h :
  ((ps_i s 903 4) = 5 →
    pl_Cl n 140 [.ref 903] s (ps_rV (fun s1 =>
      Q (some (.int 1)) s1))) ∧
  ((ps_i s 903 4) ≠ 5 →
    pl_Cl n 62 [.ref 902, .int 2] s (ps_rI (fun v2 s2 =>
      pl_nk (decide (v2 &&& 1 = v2)) (Q (some (.int v2)) s2))))) : pl_At (n + 1) 65 0 [(0, .ref 902)] [] s Q :=
  pl_wp_at (stops := []) (f := 16) h rfl

-- ProofBench$Reader.takeSymbol(I)Z
theorem pl_63_0 {n : Nat} {x1 : Int32} {s : ps_S} {Q : Option Value → ps_S → Prop} (h :
  ((ps_i s 903 4) = 2 →
    pl_Cl n 130 [.ref (ps_r s 902 5), .long (ps_j s 903 8)] s (ps_rI (fun v1 s1 =>
      (v1 = 0 →
        pl_Cl n 140 [.ref 903] s1 (ps_rV (fun s2 =>
          ((ps_i s2 903 4) = 4 →
            ((ps_i s2 903 7) ≤ 2 →
              pl_Cl n 140 [.ref 903] s2 (ps_rV (fun s3 =>
                pl_Cl n 65 [.ref 902] s3 (ps_rI (fun v4 s4 =>
                  (v4 ≠ 0 →
                    pl_Cl n 133 [.ref (ps_r s4 902 5), .int x1, .long (ps_j s 903 8), .int (ps_i s2 903 7)] s4 (ps_rV (fun s5 =>
                      Q (some (.int 1)) s5))) ∧
                  (v4 = 0 →
                    Q (some (.int 0)) s4)))))) ∧
            (2 < (ps_i s2 903 7) →
              pl_Cl n 62 [.ref 902, .int 4] s2 (ps_rI (fun v6 s6 =>
                pl_nk (decide (v6 &&& 1 = v6)) (Q (some (.int v6)) s6))))) ∧
          ((ps_i s2 903 4) ≠ 4 →
            pl_Cl n 62 [.ref 902, .int 2] s2 (ps_rI (fun v7 s7 =>
              pl_nk (decide (v7 &&& 1 = v7)) (Q (some (.int v7)) s7))))))) ∧
      (v1 ≠ 0 →
        pl_Cl n 62 [.ref 902, .int 3] s1 (ps_rI (fun v8 s8 =>
          pl_nk (decide (v8 &&& 1 = v8)) (Q (some (.int v8)) s8))))))) ∧
  ((ps_i s 903 4) ≠ 2 →
    pl_Cl n 62 [.ref 902, .int 2] s (ps_rI (fun v9 s9 =>
      pl_nk (decide (v9 &&& 1 = v9)) (Q (some (.int v9)) s9))))) : pl_At (n + 1) 63 0 [(0, .ref 902), (1, .int x1)] [] s Q :=
  pl_wp_at (stops := []) (f := 63) h rfl

-- ProofBench$Reader.takeAxiom()Z
theorem pl_64_0 {n : Nat} {s : ps_S} {Q : Option Value → ps_S → Prop} (h :
  ((ps_i s 903 4) = 2 →
    pl_Cl n 129 [.ref (ps_r s 902 5), .long (ps_j s 903 8)] s (ps_rI (fun v1 s1 =>
      (v1 = (-1) →
        pl_Cl n 140 [.ref 903] s1 (ps_rV (fun s2 =>
          pl_nk (ps_is (ps_r (ps_ui s2 902 8 1) 902 5) 9) (pl_Cl n 135 [.ref (ps_r (ps_ui s2 902 8 1) 902 5), .int (ps_i (ps_ui s2 902 8 1) (ps_r (ps_ui s2 902 8 1) 902 5) 8)] (ps_ui s2 902 8 1) (ps_rA (fun v3 s3 =>
            pl_Cl n 69 [.ref 902, .ref v3, .int 0] s3 (ps_rI (fun v4 s4 =>
              (v4 = 0 →
                Q (some (.int 0)) s4) ∧
              (v4 ≠ 0 →
                pl_Cl n 65 [.ref 902] s4 (ps_rI (fun v5 s5 =>
                  (v5 ≠ 0 →
                    pl_Cl n 134 [.ref (ps_r s5 902 5), .long (ps_j s 903 8)] s5 (ps_rV (fun s6 =>
                      Q (some (.int 1)) s6))) ∧
                  (v5 = 0 →
                    Q (some (.int 0)) s5)))))))))))) ∧
      (v1 ≠ (-1) →
        pl_Cl n 62 [.ref 902, .int 3] s1 (ps_rI (fun v7 s7 =>
          pl_nk (decide (v7 &&& 1 = v7)) (Q (some (.int v7)) s7))))))) ∧
  ((ps_i s 903 4) ≠ 2 →
    pl_Cl n 62 [.ref 902, .int 2] s (ps_rI (fun v8 s8 =>
      pl_nk (decide (v8 &&& 1 = v8)) (Q (some (.int v8)) s8))))) : pl_At (n + 1) 64 0 [(0, .ref 902)] [] s Q :=
  pl_wp_at (stops := []) (f := 54) h rfl

-- ProofBench$Tokens.begin([BI)V
theorem pl_139_0 {n : Nat} {r1 : Nat} {x2 : Int32} {s : ps_S} {Q : Option Value → ps_S → Prop} (h :
  pl_Cl n 140 [.ref 903] (ps_ui (ps_ui (ps_ur s 903 1 r1) 903 2 x2) 903 3 0) (ps_rV (fun s1 =>
    Q none s1))) : pl_At (n + 1) 139 0 [(0, .ref 903), (1, .ref r1), (2, .int x2)] [] s Q :=
  pl_wp_at (stops := []) (f := 14) h rfl

-- ProofBench$Reader.begin([BILProofBench$Theory;)V
theorem pl_61_0 {n : Nat} {r1 : Nat} {x2 : Int32} {r3 : Nat} {s : ps_S} {Q : Option Value → ps_S → Prop} (h :
  pl_Cl n 139 [.ref 903, .ref r1, .int x2] (ps_ui (ps_ui (ps_ui (ps_ui (ps_ui (ps_ur s 902 5 r3) 902 2 0) 902 4 0) 902 8 0) 902 9 0) 902 10 (-1)) (ps_rV (fun s1 =>
    Q none s1))) : pl_At (n + 1) 61 0 [(0, .ref 902), (1, .ref r1), (2, .int x2), (3, .ref r3)] [] s Q :=
  pl_wp_at (stops := []) (f := 26) h rfl

-- ProofBench$Reader.takeTheory([BILProofBench$Theory;)Z
theorem pl_58_0 {n : Nat} {r1 : Nat} {x2 : Int32} {r3 : Nat} {s : ps_S} {Q : Option Value → ps_S → Prop} (h :
  pl_Cl n 126 [.ref r3] s (ps_rV (fun s1 =>
    pl_Cl n 61 [.ref 902, .ref r1, .int x2, .ref r3] s1 (ps_rV (fun s2 =>
      pl_At n 58 18 [(0, .ref 902), (4, .int 19), (5, .int 0)] [] s2 Q))))) : pl_At (n + 1) 58 0 [(0, .ref 902), (1, .ref r1), (2, .int x2), (3, .ref r3)] [] s Q :=
  pl_wp_at (stops := [(18, [0, 4, 5]), (65, [0, 4, 5, 6]), (77, [0])]) (f := 13) h rfl

theorem pl_58_18 {n : Nat} {x4 : Int32} {x5 : Int32} {s : ps_S} {Q : Option Value → ps_S → Prop} (h :
  (x4 ≤ x5 →
    Q (some (.int 1)) s) ∧
  (x5 < x4 →
    ((ps_i s 903 4) = 0 →
      Q (some (.int 1)) s) ∧
    ((ps_i s 903 4) ≠ 0 →
      ((ps_i s 903 6) = 8 →
        pl_At n 58 65 [(0, .ref 902), (4, .int x4), (5, .int x5), (6, .int (ps_i s 903 6))] [] s Q) ∧
      ((ps_i s 903 6) ≠ 8 →
        ((ps_i s 903 6) = 9 →
          pl_At n 58 65 [(0, .ref 902), (4, .int x4), (5, .int x5), (6, .int (ps_i s 903 6))] [] s Q) ∧
        ((ps_i s 903 6) ≠ 9 →
          ((ps_i s 903 6) ≠ 10 →
            pl_At n 58 77 [(0, .ref 902)] [] s Q) ∧
          ((ps_i s 903 6) = 10 →
            pl_At n 58 65 [(0, .ref 902), (4, .int x4), (5, .int x5), (6, .int (ps_i s 903 6))] [] s Q)))))) : pl_At (n + 1) 58 18 [(0, .ref 902), (4, .int x4), (5, .int x5)] [] s Q :=
  pl_wp_at (stops := [(18, [0, 4, 5]), (65, [0, 4, 5, 6]), (77, [0])]) (f := 26) h rfl

theorem pl_58_65 {n : Nat} {x4 : Int32} {x5 : Int32} {x6 : Int32} {s : ps_S} {Q : Option Value → ps_S → Prop} (h :
  pl_Cl n 132 [.ref (ps_r s 902 5), .int x6] s (ps_rI (fun v1 s1 =>
    (v1 = 0 →
      pl_Cl n 140 [.ref 903] s1 (ps_rV (fun s2 =>
        (x6 ≠ 10 →
          pl_Cl n 63 [.ref 902, .int x6] s2 (ps_rI (fun v3 s3 =>
            (v3 ≠ 0 →
              pl_At n 58 18 [(0, .ref 902), (4, .int x4), (5, .int (x5 + 1))] [] s3 Q) ∧
            (v3 = 0 →
              Q (some (.int 0)) s3)))) ∧
        (x6 = 10 →
          pl_Cl n 64 [.ref 902] s2 (ps_rI (fun v4 s4 =>
            (v4 = 0 →
              Q (some (.int 0)) s4) ∧
            (v4 ≠ 0 →
              pl_At n 58 18 [(0, .ref 902), (4, .int x4), (5, .int (x5 + 1))] [] s4 Q))))))) ∧
    (v1 ≠ 0 →
      pl_At n 58 77 [(0, .ref 902)] [] s1 Q)))) : pl_At (n + 1) 58 65 [(0, .ref 902), (4, .int x4), (5, .int x5), (6, .int x6)] [] s Q :=
  pl_wp_at (stops := [(18, [0, 4, 5]), (65, [0, 4, 5, 6]), (77, [0])]) (f := 29) h rfl

theorem pl_58_77 {n : Nat} {s : ps_S} {Q : Option Value → ps_S → Prop} (h :
  pl_Cl n 62 [.ref 902, .int 2] s (ps_rI (fun v1 s1 =>
    pl_nk (decide (v1 &&& 1 = v1)) (Q (some (.int v1)) s1)))) : pl_At (n + 1) 58 77 [(0, .ref 902)] [] s Q :=
  pl_wp_at (stops := [(18, [0, 4, 5]), (65, [0, 4, 5, 6]), (77, [0])]) (f := 6) h rfl

theorem cv_H_ax {s : ps_S} {th : Nat} {h : tx_H} (H : cv_H s th h) : ∀ k w, (tx_A h)[k]? = some w → tx_w w ∧ ps_b s (th + 3) k = tx_x w := fun k w e => by
  unfold tx_A at e
  rw [List.getElem?_map] at e
  obtain ⟨q, h1, rfl⟩ := Option.map_eq_some_iff.mp e
  obtain ⟨z1, z2, z3⟩ := H.2.2.2 k q.1 q.2 h1
  exact ⟨z1, z2⟩
theorem fs_129 {n : Nat} {th : Nat} {h : tx_H} {w : List Nat} {l1 : Int64} {s : ps_S} {R : Int32 → ps_S → Prop} (hth : th = 2 ∨ th = 26) (H : cv_H s th h) (hw : tx_w w) (hl : l1 = tx_x w) (k : ∀ v : Int32, tx_opt (tx_at (tx_A h) w) v → R v s) : pl_Cl n 129 [.ref th, .long l1] s (ps_rI R) := by
  cases n with
  | zero => exact pl_At_0
  | succ n =>
  show pl_At (n + 1) 129 0 [(0, .ref th), (1, .long l1)] [] s (ps_rI R)
  have t := cv_th5 hth
  have hlen : (tx_A h).length = h.2.length := List.length_map ..
  refine pl_129_0 ?_
  refine pl_nk_i (fun nk1 => ?_)
  refine pl_nk_i (fun nk5 => ?_)
  rw [t.2.2.2.2.2.1]
  refine fs_131 (L := tx_A h) hw hl (cv_H_ax H) (by rw [hlen]; exact H.2.1) (by rw [hlen, t.2.2.2.2.2.2.2.2.2.1]; exact H.2.2.1) (by rw [t.2.2.2.2.2.2.2.2.2.1]; decide) (fun v9 q9 => ?_)
  exact k _ q9
theorem fs_126 {n th : Nat} {s : ps_S} {R : ps_S → Prop} (k : R (ps_ui (ps_ui (ps_ui s th 6 0) th 7 0) th 8 0)) : pl_Cl n 126 [.ref th] s (ps_rV R) := by
  cases n with
  | zero => exact pl_At_0
  | succ n =>
  show pl_At (n + 1) 126 0 [(0, .ref th)] [] s (ps_rV R)
  refine pl_126_0 ?_
  refine pl_nk_i (fun nk2 => ?_)
  refine pl_nk_i (fun nk7 => ?_)
  refine pl_nk_i (fun nk12 => ?_)
  exact k
theorem fs_132 {n : Nat} {th : Nat} {h : tx_H} {x1 : Int32} {s : ps_S} {R : Int32 → ps_S → Prop} (H : cv_H s th h) (k1 : ¬ ((x1.toInt = 8 ∧ h.1.1.length < 6) ∨ (x1.toInt = 9 ∧ h.1.2.length < 4) ∨ (x1.toInt ≠ 8 ∧ x1.toInt ≠ 9 ∧ h.2.length < 8)) → R 1 s) (k0 : ((x1.toInt = 8 ∧ h.1.1.length < 6) ∨ (x1.toInt = 9 ∧ h.1.2.length < 4) ∨ (x1.toInt ≠ 8 ∧ x1.toInt ≠ 9 ∧ h.2.length < 8)) → R 0 s) : pl_Cl n 132 [.ref th, .int x1] s (ps_rI R) := by
  cases n with
  | zero => exact pl_At_0
  | succ n =>
  show pl_At (n + 1) 132 0 [(0, .ref th), (1, .int x1)] [] s (ps_rI R)
  have a1 := H.1.1
  have a2 := H.1.2.1
  have a3 := H.2.1
  refine pl_132_0 ?_
  refine ⟨fun h1_8 => ?_, fun h1_8 => ?_⟩
  · have h1_8 : x1.toInt = (8 : Int) := xeq h1_8
    refine pl_nk_i (fun nk29 => ?_)
    refine ⟨fun h34 => ?_, fun h34 => ?_⟩
    · have h34 : (ps_i s th 6).toInt < (6 : Int) := xlt h34
      exact k0 (by omega)
    · have h34 : (6 : Int) ≤ (ps_i s th 6).toInt := xle h34
      exact k1 (by omega)
  have h1_8 : x1.toInt ≠ (8 : Int) := xne h1_8
  refine ⟨fun h1_9 => ?_, fun h1_9 => ?_⟩
  · have h1_9 : x1.toInt = (9 : Int) := xeq h1_9
    refine pl_nk_i (fun nk44 => ?_)
    refine ⟨fun h48 => ?_, fun h48 => ?_⟩
    · have h48 : (ps_i s th 7).toInt < (4 : Int) := xlt h48
      exact k0 (by omega)
    · have h48 : (4 : Int) ≤ (ps_i s th 7).toInt := xle h48
      exact k1 (by omega)
  have h1_9 : x1.toInt ≠ (9 : Int) := xne h1_9
  refine pl_nk_i (fun nk58 => ?_)
  refine ⟨fun h63 => ?_, fun h63 => ?_⟩
  · have h63 : (ps_i s th 8).toInt < (8 : Int) := xlt h63
    exact k0 (by omega)
  · have h63 : (8 : Int) ≤ (ps_i s th 8).toInt := xle h63
    exact k1 (by omega)
theorem fs_183 {n r0 a : Nat} {x1 x2 : Int32} {s : ps_S} {R : ps_S → Prop} (hx : x1.toInt = a) (ha : a < ps_ln r0) (hl : ps_ln r0 ≤ 20000) (k : R (ps_ua s r0 a x2)) : pl_Cl n 183 [.ref r0, .int x1, .int x2] s (ps_rV R) := by
  cases n with
  | zero => exact pl_At_0
  | succ n =>
  show pl_At (n + 1) 183 0 [(0, .ref r0), (1, .int x1), (2, .int x2)] [] s (ps_rV R)
  have h40 : (nI (ps_ln r0)).toInt = (ps_ln r0 : Nat) := nI_i (by omega)
  refine pl_183_0 ?_
  refine ⟨fun h1 => ?_, fun h1 => ?_⟩
  · have h1 : x1.toInt < (0 : Int) := xlt h1
    exfalso; omega
  · have h1 : (0 : Int) ≤ x1.toInt := xle h1
    refine pl_nk_i (fun nk6 => ?_)
    refine ⟨fun h7 => ?_, fun h7 => ?_⟩
    · have h7 : (nI (ps_ln r0)).toInt ≤ x1.toInt := xle h7
      exfalso; omega
    · have h7 : x1.toInt < (nI (ps_ln r0)).toInt := xlt h7
      refine pl_nk_i (fun nk13 => ?_)
      intro b13
      obtain ⟨b13, c13⟩ := pl_in b13
      rw [xtn hx]
      exact k

theorem tx_snoc {α : Type} {l : List α} {x y : α} {k : Nat} (h : (l ++ [x])[k]? = some y) : (k < l.length ∧ l[k]? = some y) ∨ (k = l.length ∧ y = x) := by
  by_cases e : k = l.length
  · right
    rw [e, List.getElem?_append_right (Nat.le_refl _), Nat.sub_self] at h
    cases h
    exact ⟨e, rfl⟩
  · left
    have hk : k < l.length := by
      have := (List.getElem?_eq_some_iff.mp h).1
      rw [List.length_append] at this
      have : k < l.length + 1 := this
      omega
    rw [List.getElem?_append_left hk] at h
    exact ⟨hk, h⟩
theorem tx_at_mem {L : List (List Nat)} {w : List Nat} (h : tx_at L w = none) : ¬ w ∈ L := fun z => by
  obtain ⟨k, hk, e⟩ := List.getElem_of_mem z
  exact tx_ix_none h k (by rw [List.getElem?_eq_getElem hk, e])
theorem cv_H_rel {s : ps_S} {th a : Nat} {h : tx_H} {w : List Nat} {x4 : Int32} {l2 : Int64} (H : cv_H s th h) (hlt : h.1.1.length < 6) (hw : tx_w w) (ha : a ≤ 2) (hl : l2 = tx_x w) (hx : x4.toInt = a) (h1 : tx_at (h.1.1.map Prod.fst) w = none) (h2 : tx_at (h.1.2.map Prod.fst) w = none) : cv_H (ps_ui (ps_ub (ps_ua s (th + 4) (10 + h.1.1.length) x4) (th + 1) h.1.1.length l2) th 6 (ps_i s th 6 + 1)) th ((h.1.1 ++ [(w, a)], h.1.2), h.2) := by
  obtain ⟨⟨e1, e2, e3, e4, e5, e6, ⟨a0, a1, a2, a3, a4, a5, a6⟩, e8⟩, f2, f3, f4⟩ := H
  have ea : ∀ j, j ≠ 10 + h.1.1.length → ps_a (ps_ua s (th + 4) (10 + h.1.1.length) x4) (th + 4) j = ps_a s (th + 4) j := fun j hj => by rw [ps_a_ua, if_neg (fun z => hj z.2)]
  have e2' : (ps_i (ps_ui (ps_ub (ps_ua s (th + 4) (10 + h.1.1.length) x4) (th + 1) h.1.1.length l2) th 6 (ps_i s th 6 + 1)) th 7).toInt = h.1.2.length := by rw [ps_i_ui, if_neg (by omega)]; exact e2
  have f2' : (ps_i (ps_ui (ps_ub (ps_ua s (th + 4) (10 + h.1.1.length) x4) (th + 1) h.1.1.length l2) th 6 (ps_i s th 6 + 1)) th 8).toInt = h.2.length := by rw [ps_i_ui, if_neg (by omega)]; exact f2
  refine ⟨⟨?_, e2', ?_, e4, fun k w' a' hk => ?_, fun k w' a' hk => ?_, ⟨?_, ?_, ?_, ?_, ?_, ?_, ?_⟩, fun w' m1 m2 => ?_⟩, f2', f3, fun k w' l' hk => ?_⟩
  · rw [ps_i_ui, if_pos ⟨rfl, rfl⟩, List.length_append]
    exact xj1 e1 (by omega)
  · rw [List.length_append]
    show h.1.1.length + 1 ≤ 6
    omega
  · show tx_w w' ∧ a' ≤ 2 ∧ ps_b (ps_ub (ps_ua s (th + 4) (10 + h.1.1.length) x4) (th + 1) h.1.1.length l2) (th + 1) k = tx_x w' ∧ (ps_a (ps_ua s (th + 4) (10 + h.1.1.length) x4) (th + 4) (10 + k)).toInt = a'
    rw [ps_b_ub]
    rcases tx_snoc hk with ⟨z1, z2⟩ | ⟨z1, z2⟩
    · rw [if_neg (by omega), ea _ (by omega)]
      exact e5 k w' a' z2
    · cases z2
      rw [if_pos ⟨rfl, z1⟩, ps_a_ua, if_pos ⟨rfl, by omega⟩]
      exact ⟨hw, ha, hl, hx⟩
  · show tx_w w' ∧ a' ≤ 2 ∧ ps_b (ps_ub (ps_ua s (th + 4) (10 + h.1.1.length) x4) (th + 1) h.1.1.length l2) (th + 2) k = tx_x w' ∧ (ps_a (ps_ua s (th + 4) (10 + h.1.1.length) x4) (th + 4) (20 + k)).toInt = a'
    rw [ps_b_ub, if_neg (by omega), ea _ (by omega)]
    exact e6 k w' a' hk
  · show (ps_a (ps_ua s (th + 4) (10 + h.1.1.length) x4) (th + 4) 0).toInt = 0
    rw [ea _ (by omega)]; exact a0
  · show (ps_a (ps_ua s (th + 4) (10 + h.1.1.length) x4) (th + 4) 1).toInt = 2
    rw [ea _ (by omega)]; exact a1
  · show (ps_a (ps_ua s (th + 4) (10 + h.1.1.length) x4) (th + 4) 2).toInt = 2
    rw [ea _ (by omega)]; exact a2
  · show (ps_a (ps_ua s (th + 4) (10 + h.1.1.length) x4) (th + 4) 3).toInt = 2
    rw [ea _ (by omega)]; exact a3
  · show (ps_a (ps_ua s (th + 4) (10 + h.1.1.length) x4) (th + 4) 4).toInt = 1
    rw [ea _ (by omega)]; exact a4
  · show (ps_a (ps_ua s (th + 4) (10 + h.1.1.length) x4) (th + 4) 5).toInt = 1
    rw [ea _ (by omega)]; exact a5
  · show (ps_a (ps_ua s (th + 4) (10 + h.1.1.length) x4) (th + 4) 6).toInt = 2
    rw [ea _ (by omega)]; exact a6
  · rw [List.map_append] at m1
    rcases List.mem_append.mp m1 with m1 | m1
    · exact e8 w' m1 m2
    · have m1 : w' ∈ [w] := m1
      rw [List.mem_singleton] at m1
      rw [m1] at m2
      exact tx_at_mem h2 m2
  · obtain ⟨z1, z2, z3⟩ := f4 k w' l' hk
    refine ⟨z1, ?_, ?_⟩
    · show ps_b (ps_ub (ps_ua s (th + 4) (10 + h.1.1.length) x4) (th + 1) h.1.1.length l2) (th + 3) k = _
      rw [ps_b_ub, if_neg (by omega)]
      exact z2
    · refine cv_W_cfr z3 (C := fun q => q = th ∨ q = th + 1 ∨ q = th + 4) (cfr_i (cfr_b (cfr_a cfr_refl (Or.inr (Or.inr rfl))) (Or.inr (Or.inl rfl))) (Or.inl rfl)) (fun z => ?_) (fun z => ?_)
      · have z : th + 8 + 2 * k = th ∨ th + 8 + 2 * k = th + 1 ∨ th + 8 + 2 * k = th + 4 := z
        omega
      · have z : th + 8 + 2 * k + 1 = th ∨ th + 8 + 2 * k + 1 = th + 1 ∨ th + 8 + 2 * k + 1 = th + 4 := z
        omega

theorem cv_H_fun {s : ps_S} {th a : Nat} {h : tx_H} {w : List Nat} {x4 : Int32} {l2 : Int64} (H : cv_H s th h) (hlt : h.1.2.length < 4) (hw : tx_w w) (ha : a ≤ 2) (hl : l2 = tx_x w) (hx : x4.toInt = a) (h1 : tx_at (h.1.1.map Prod.fst) w = none) (h2 : tx_at (h.1.2.map Prod.fst) w = none) : cv_H (ps_ui (ps_ub (ps_ua s (th + 4) (20 + h.1.2.length) x4) (th + 2) h.1.2.length l2) th 7 (ps_i s th 7 + 1)) th ((h.1.1, h.1.2 ++ [(w, a)]), h.2) := by
  obtain ⟨⟨e1, e2, e3, e4, e5, e6, ⟨a0, a1, a2, a3, a4, a5, a6⟩, e8⟩, f2, f3, f4⟩ := H
  have ea : ∀ j, j ≠ 20 + h.1.2.length → ps_a (ps_ua s (th + 4) (20 + h.1.2.length) x4) (th + 4) j = ps_a s (th + 4) j := fun j hj => by rw [ps_a_ua, if_neg (fun z => hj z.2)]
  have e1' : (ps_i (ps_ui (ps_ub (ps_ua s (th + 4) (20 + h.1.2.length) x4) (th + 2) h.1.2.length l2) th 7 (ps_i s th 7 + 1)) th 6).toInt = h.1.1.length := by rw [ps_i_ui, if_neg (by omega)]; exact e1
  have f2' : (ps_i (ps_ui (ps_ub (ps_ua s (th + 4) (20 + h.1.2.length) x4) (th + 2) h.1.2.length l2) th 7 (ps_i s th 7 + 1)) th 8).toInt = h.2.length := by rw [ps_i_ui, if_neg (by omega)]; exact f2
  refine ⟨⟨e1', ?_, e3, ?_, fun k w' a' hk => ?_, fun k w' a' hk => ?_, ⟨?_, ?_, ?_, ?_, ?_, ?_, ?_⟩, fun w' m1 m2 => ?_⟩, f2', f3, fun k w' l' hk => ?_⟩
  · rw [ps_i_ui, if_pos ⟨rfl, rfl⟩, List.length_append]
    exact xj1 e2 (by omega)
  · rw [List.length_append]
    show h.1.2.length + 1 ≤ 4
    omega
  · show tx_w w' ∧ a' ≤ 2 ∧ ps_b (ps_ub (ps_ua s (th + 4) (20 + h.1.2.length) x4) (th + 2) h.1.2.length l2) (th + 1) k = tx_x w' ∧ (ps_a (ps_ua s (th + 4) (20 + h.1.2.length) x4) (th + 4) (10 + k)).toInt = a'
    have hk6 : k < h.1.1.length := (List.getElem?_eq_some_iff.mp hk).1
    rw [ps_b_ub, if_neg (by omega), ea _ (by omega)]
    exact e5 k w' a' hk
  · show tx_w w' ∧ a' ≤ 2 ∧ ps_b (ps_ub (ps_ua s (th + 4) (20 + h.1.2.length) x4) (th + 2) h.1.2.length l2) (th + 2) k = tx_x w' ∧ (ps_a (ps_ua s (th + 4) (20 + h.1.2.length) x4) (th + 4) (20 + k)).toInt = a'
    rw [ps_b_ub]
    rcases tx_snoc hk with ⟨z1, z2⟩ | ⟨z1, z2⟩
    · rw [if_neg (by omega), ea _ (by omega)]
      exact e6 k w' a' z2
    · cases z2
      rw [if_pos ⟨rfl, z1⟩, ps_a_ua, if_pos ⟨rfl, by omega⟩]
      exact ⟨hw, ha, hl, hx⟩
  · show (ps_a (ps_ua s (th + 4) (20 + h.1.2.length) x4) (th + 4) 0).toInt = 0
    rw [ea _ (by omega)]; exact a0
  · show (ps_a (ps_ua s (th + 4) (20 + h.1.2.length) x4) (th + 4) 1).toInt = 2
    rw [ea _ (by omega)]; exact a1
  · show (ps_a (ps_ua s (th + 4) (20 + h.1.2.length) x4) (th + 4) 2).toInt = 2
    rw [ea _ (by omega)]; exact a2
  · show (ps_a (ps_ua s (th + 4) (20 + h.1.2.length) x4) (th + 4) 3).toInt = 2
    rw [ea _ (by omega)]; exact a3
  · show (ps_a (ps_ua s (th + 4) (20 + h.1.2.length) x4) (th + 4) 4).toInt = 1
    rw [ea _ (by omega)]; exact a4
  · show (ps_a (ps_ua s (th + 4) (20 + h.1.2.length) x4) (th + 4) 5).toInt = 1
    rw [ea _ (by omega)]; exact a5
  · show (ps_a (ps_ua s (th + 4) (20 + h.1.2.length) x4) (th + 4) 6).toInt = 2
    rw [ea _ (by omega)]; exact a6
  · rw [List.map_append] at m2
    rcases List.mem_append.mp m2 with m2 | m2
    · exact e8 w' m1 m2
    · have m2 : w' ∈ [w] := m2
      rw [List.mem_singleton] at m2
      rw [m2] at m1
      exact tx_at_mem h1 m1
  · obtain ⟨z1, z2, z3⟩ := f4 k w' l' hk
    refine ⟨z1, ?_, ?_⟩
    · show ps_b (ps_ub (ps_ua s (th + 4) (20 + h.1.2.length) x4) (th + 2) h.1.2.length l2) (th + 3) k = _
      rw [ps_b_ub, if_neg (by omega)]
      exact z2
    · refine cv_W_cfr z3 (C := fun q => q = th ∨ q = th + 2 ∨ q = th + 4) (cfr_i (cfr_b (cfr_a cfr_refl (Or.inr (Or.inr rfl))) (Or.inr (Or.inl rfl))) (Or.inl rfl)) (fun z => ?_) (fun z => ?_)
      · have z : th + 8 + 2 * k = th ∨ th + 8 + 2 * k = th + 2 ∨ th + 8 + 2 * k = th + 4 := z
        omega
      · have z : th + 8 + 2 * k + 1 = th ∨ th + 8 + 2 * k + 1 = th + 2 ∨ th + 8 + 2 * k + 1 = th + 4 := z
        omega

theorem cv_H_axm {s : ps_S} {th : Nat} {h : tx_H} {w l : List Nat} {l1 : Int64} (H : cv_H s th h) (hlt : h.2.length < 8) (hw : tx_w w) (hl : l1 = tx_x w) (hW : cv_W s (th + 8 + 2 * h.2.length) l) : cv_H (ps_ui (ps_ub s (th + 3) h.2.length l1) th 8 (ps_i s th 8 + 1)) th (h.1, h.2 ++ [(w, l)]) := by
  obtain ⟨f1, f2, f3, f4⟩ := H
  have F : cfr (fun q => q = th + 3) s (ps_ub s (th + 3) h.2.length l1) := cfr_b cfr_refl rfl
  have F2 : cfr (fun q => q = th ∨ q = th + 3) s (ps_ui (ps_ub s (th + 3) h.2.length l1) th 8 (ps_i s th 8 + 1)) := cfr_i (cfr_b cfr_refl (Or.inr rfl)) (Or.inl rfl)
  have no : ∀ q, th + 8 ≤ q → ¬ (q = th ∨ q = th + 3) := fun q hq => by omega
  refine ⟨?_, ?_, ?_, fun k w' l' hk => ?_⟩
  · have E := cv_E_cfr f1 F (fun z => by have z : th = th + 3 := z; omega) (fun z => by have z : th + 1 = th + 3 := z; omega) (fun z => by have z : th + 2 = th + 3 := z; omega) (fun z => by have z : th + 4 = th + 3 := z; omega)
    unfold cv_E at *
    rw [ps_i_ui, ps_i_ui, if_neg (by omega), if_neg (by omega)]
    exact E
  · rw [ps_i_ui, if_pos ⟨rfl, rfl⟩, List.length_append]
    exact xj1 f2 (by omega)
  · rw [List.length_append]
    show h.2.length + 1 ≤ 8
    omega
  · show tx_w w' ∧ ps_b (ps_ub s (th + 3) h.2.length l1) (th + 3) k = tx_x w' ∧ _
    rw [ps_b_ub]
    rcases tx_snoc hk with ⟨z1, z2⟩ | ⟨z1, z2⟩
    · rw [if_neg (by omega)]
      obtain ⟨y1, y2, y3⟩ := f4 k w' l' z2
      exact ⟨y1, y2, cv_W_cfr y3 F2 (no _ (by omega)) (no _ (by omega))⟩
    · cases z2
      rw [if_pos ⟨rfl, z1⟩, z1]
      exact ⟨hw, hl, cv_W_cfr hW F2 (no _ (by omega)) (no _ (by omega))⟩

theorem cv_HCth {th : Nat} : cv_HC th th := Or.inl ⟨Nat.le_refl _, by omega⟩
theorem cv_HCk {th k : Nat} (h : k < 24) : cv_HC th (th + k) := Or.inl ⟨by omega, by omega⟩
theorem fs_133_r {n : Nat} {th a : Nat} {h : tx_H} {w : List Nat} {x1 x4 : Int32} {l2 : Int64} {s : ps_S} {R : ps_S → Prop} (hth : th = 2 ∨ th = 26) (H : cv_H s th h) (hx : x1.toInt = 8) (hlt : h.1.1.length < 6) (hw : tx_w w) (ha : a ≤ 2) (hl : l2 = tx_x w) (hx4 : x4.toInt = a) (h1 : tx_at (h.1.1.map Prod.fst) w = none) (h2 : tx_at (h.1.2.map Prod.fst) w = none) (k : ∀ s', cv_H s' th ((h.1.1 ++ [(w, a)], h.1.2), h.2) ∧ cfr (fun q => th ≤ q ∧ q < th + 24) s s' → R s') : pl_Cl n 133 [.ref th, .int x1, .long l2, .int x4] s (ps_rV R) := by
  cases n with
  | zero => exact pl_At_0
  | succ n =>
  show pl_At (n + 1) 133 0 [(0, .ref th), (1, .int x1), (2, .long l2), (4, .int x4)] [] s (ps_rV R)
  have e1 := H.1.1
  have t := cv_th5 hth
  have tA : (nI (ps_ln (ps_c0 th 0))).toInt = 6 := by rw [t.2.2.2.1, t.2.2.2.2.2.2.2.1]; decide
  have tB : (nI (ps_ln (ps_c0 th 1))).toInt = 4 := by rw [t.2.2.2.2.1, t.2.2.2.2.2.2.2.2.1]; decide
  have tC : (nI (ps_ln (ps_c0 th 2))).toInt = 8 := by rw [t.2.2.2.2.2.1, t.2.2.2.2.2.2.2.2.2.1]; decide
  have tD : ps_ln (th + 4) = 40 := t.2.2.2.2.2.2.2.2.2.2
  have tE : ps_c0 th 3 = th + 4 := t.2.2.2.2.2.2.1
  have h10 : (10 : Int32).toInt = 10 := by decide
  refine pl_133_0 ?_
  refine ⟨fun h3 => ?_, fun h3 => ?_⟩
  · have h3 : x1.toInt ≠ (8 : Int) := xne h3
    exfalso; omega
  · have h3 : x1.toInt = (8 : Int) := xeq h3
    refine pl_nk_i (fun nk7 => ?_)
    refine ⟨fun h10 => ?_, fun h10 => ?_⟩
    · have h10 : (ps_i s th 6).toInt < (0 : Int) := xlt h10
      exfalso; omega
    · have h10 : (0 : Int) ≤ (ps_i s th 6).toInt := xle h10
      refine pl_nk_i (fun nk14 => ?_)
      refine pl_nk_i (fun nk18 => ?_)
      refine pl_nk_i (fun nk21 => ?_)
      refine ⟨fun h22 => ?_, fun h22 => ?_⟩
      · have h22 : (nI (ps_ln (ps_c0 th 0))).toInt ≤ (ps_i s th 6).toInt := xle h22
        exfalso; omega
      · have h22 : (ps_i s th 6).toInt < (nI (ps_ln (ps_c0 th 0))).toInt := xlt h22
        refine pl_nk_i (fun nk26 => ?_)
        refine pl_nk_i (fun nk32 => ?_)
        rw [tE]
        refine fs_183 (a := 10 + h.1.1.length) (by rw [xIa (by omega) (by omega)]; omega) (by rw [tD]; omega) (by rw [tD]; decide) ?_
        refine pl_nk_i (fun nk42 => ?_)
        refine pl_nk_i (fun nk46 => ?_)
        refine pl_nk_i (fun nk50 => ?_)
        intro b50
        obtain ⟨b50, c50⟩ := pl_in b50
        refine pl_nk_i (fun nk53 => ?_)
        refine pl_nk_i (fun nk58 => ?_)
        have e1' : (ps_i (ps_ua s (th + 4) (10 + h.1.1.length) x4) th 6).toInt = h.1.1.length := e1
        rw [t.2.2.2.1, xtn e1']
        have F : cfr (fun q => th ≤ q ∧ q < th + 24) s (ps_ui (ps_ub (ps_ua s (th + 4) (10 + h.1.1.length) x4) (th + 1) h.1.1.length l2) th 6 (ps_i s th 6 + 1)) := cfr_i (cfr_b (cfr_a cfr_refl ⟨by omega, by omega⟩) ⟨by omega, by omega⟩) ⟨Nat.le_refl _, by omega⟩
        cases n with
        | zero => exact pl_At_0
        | succ n =>
        refine pl_133_61 ?_
        refine ⟨fun h67 => ?_, fun h67 => ?_⟩
        · exact k _ ⟨cv_H_rel H hlt hw ha hl hx4 h1 h2, F⟩
        · have h67 : x1.toInt = (9 : Int) := xeq h67
          exfalso
          omega

theorem fs_133_f {n : Nat} {th a : Nat} {h : tx_H} {w : List Nat} {x1 x4 : Int32} {l2 : Int64} {s : ps_S} {R : ps_S → Prop} (hth : th = 2 ∨ th = 26) (H : cv_H s th h) (hx : x1.toInt = 9) (hlt : h.1.2.length < 4) (hw : tx_w w) (ha : a ≤ 2) (hl : l2 = tx_x w) (hx4 : x4.toInt = a) (h1 : tx_at (h.1.1.map Prod.fst) w = none) (h2 : tx_at (h.1.2.map Prod.fst) w = none) (k : ∀ s', cv_H s' th ((h.1.1, h.1.2 ++ [(w, a)]), h.2) ∧ cfr (fun q => th ≤ q ∧ q < th + 24) s s' → R s') : pl_Cl n 133 [.ref th, .int x1, .long l2, .int x4] s (ps_rV R) := by
  cases n with
  | zero => exact pl_At_0
  | succ n =>
  show pl_At (n + 1) 133 0 [(0, .ref th), (1, .int x1), (2, .long l2), (4, .int x4)] [] s (ps_rV R)
  have e1 := H.1.2.1
  have t := cv_th5 hth
  have tA : (nI (ps_ln (ps_c0 th 0))).toInt = 6 := by rw [t.2.2.2.1, t.2.2.2.2.2.2.2.1]; decide
  have tB : (nI (ps_ln (ps_c0 th 1))).toInt = 4 := by rw [t.2.2.2.2.1, t.2.2.2.2.2.2.2.2.1]; decide
  have tC : (nI (ps_ln (ps_c0 th 2))).toInt = 8 := by rw [t.2.2.2.2.2.1, t.2.2.2.2.2.2.2.2.2.1]; decide
  have tD : ps_ln (th + 4) = 40 := t.2.2.2.2.2.2.2.2.2.2
  have tE : ps_c0 th 3 = th + 4 := t.2.2.2.2.2.2.1
  have h20 : (20 : Int32).toInt = 20 := by decide
  refine pl_133_0 ?_
  refine ⟨fun hh2 => ?_, fun hh2 => ?_⟩
  · cases n with
    | zero => exact pl_At_0
    | succ n =>
    refine pl_133_61 ?_
    refine ⟨fun h64 => ?_, fun h64 => ?_⟩
    · have h64 : x1.toInt ≠ (9 : Int) := xne h64
      exfalso; omega
    · have h64 : x1.toInt = (9 : Int) := xeq h64
      refine pl_nk_i (fun nk68 => ?_)
      refine ⟨fun h71 => ?_, fun h71 => ?_⟩
      · have h71 : (ps_i s th 7).toInt < (0 : Int) := xlt h71
        exfalso; omega
      · have h71 : (0 : Int) ≤ (ps_i s th 7).toInt := xle h71
        refine pl_nk_i (fun nk75 => ?_)
        refine pl_nk_i (fun nk79 => ?_)
        refine pl_nk_i (fun nk82 => ?_)
        refine ⟨fun h83 => ?_, fun h83 => ?_⟩
        · have h83 : (nI (ps_ln (ps_c0 th 1))).toInt ≤ (ps_i s th 7).toInt := xle h83
          exfalso; omega
        · have h83 : (ps_i s th 7).toInt < (nI (ps_ln (ps_c0 th 1))).toInt := xlt h83
          refine pl_nk_i (fun nk87 => ?_)
          refine pl_nk_i (fun nk93 => ?_)
          rw [tE]
          refine fs_183 (a := 20 + h.1.2.length) (by rw [xIa (by omega) (by omega)]; omega) (by rw [tD]; omega) (by rw [tD]; decide) ?_
          refine pl_nk_i (fun nk103 => ?_)
          refine pl_nk_i (fun nk107 => ?_)
          refine pl_nk_i (fun nk111 => ?_)
          intro b111
          obtain ⟨b111, c111⟩ := pl_in b111
          refine pl_nk_i (fun nk114 => ?_)
          refine pl_nk_i (fun nk119 => ?_)
          have e1' : (ps_i (ps_ua s (th + 4) (20 + h.1.2.length) x4) th 7).toInt = h.1.2.length := e1
          rw [t.2.2.2.2.1, xtn e1']
          exact k _ ⟨cv_H_fun H hlt hw ha hl hx4 h1 h2, cfr_i (cfr_b (cfr_a cfr_refl ⟨by omega, by omega⟩) ⟨by omega, by omega⟩) ⟨Nat.le_refl _, by omega⟩⟩
  · have h2 : x1.toInt = (8 : Int) := xeq hh2
    exfalso
    omega

theorem fs_134 {n : Nat} {th : Nat} {h : tx_H} {w l : List Nat} {l1 : Int64} {s : ps_S} {R : ps_S → Prop} (hth : th = 2 ∨ th = 26) (H : cv_H s th h) (hlt : h.2.length < 8) (hw : tx_w w) (hl : l1 = tx_x w) (hW : cv_W s (th + 8 + 2 * h.2.length) l) (k : ∀ s', cv_H s' th (h.1, h.2 ++ [(w, l)]) ∧ cfr (fun q => th ≤ q ∧ q < th + 24) s s' → R s') : pl_Cl n 134 [.ref th, .long l1] s (ps_rV R) := by
  cases n with
  | zero => exact pl_At_0
  | succ n =>
  show pl_At (n + 1) 134 0 [(0, .ref th), (1, .long l1)] [] s (ps_rV R)
  have e1 := H.2.1
  have t := cv_th5 hth
  have tA : (nI (ps_ln (ps_c0 th 0))).toInt = 6 := by rw [t.2.2.2.1, t.2.2.2.2.2.2.2.1]; decide
  have tB : (nI (ps_ln (ps_c0 th 1))).toInt = 4 := by rw [t.2.2.2.2.1, t.2.2.2.2.2.2.2.2.1]; decide
  have tC : (nI (ps_ln (ps_c0 th 2))).toInt = 8 := by rw [t.2.2.2.2.2.1, t.2.2.2.2.2.2.2.2.2.1]; decide
  have tD : ps_ln (th + 4) = 40 := t.2.2.2.2.2.2.2.2.2.2
  have tE : ps_c0 th 3 = th + 4 := t.2.2.2.2.2.2.1
  refine pl_134_0 ?_
  refine pl_nk_i (fun nk1 => ?_)
  refine ⟨fun h4 => ?_, fun h4 => ?_⟩
  · have h4 : (ps_i s th 8).toInt < (0 : Int) := xlt h4
    exfalso; omega
  · have h4 : (0 : Int) ≤ (ps_i s th 8).toInt := xle h4
    refine pl_nk_i (fun nk8 => ?_)
    refine pl_nk_i (fun nk12 => ?_)
    refine pl_nk_i (fun nk15 => ?_)
    refine ⟨fun h16 => ?_, fun h16 => ?_⟩
    · have h16 : (nI (ps_ln (ps_c0 th 2))).toInt ≤ (ps_i s th 8).toInt := xle h16
      exfalso; omega
    · have h16 : (ps_i s th 8).toInt < (nI (ps_ln (ps_c0 th 2))).toInt := xlt h16
      refine pl_nk_i (fun nk20 => ?_)
      refine pl_nk_i (fun nk24 => ?_)
      refine pl_nk_i (fun nk28 => ?_)
      intro b28
      obtain ⟨b28, c28⟩ := pl_in b28
      refine pl_nk_i (fun nk31 => ?_)
      refine pl_nk_i (fun nk36 => ?_)
      rw [t.2.2.2.2.2.1, xtn e1]
      exact k _ ⟨cv_H_axm H hlt hw hl hW, cfr_i (cfr_b cfr_refl ⟨by omega, by omega⟩) ⟨Nat.le_refl _, by omega⟩⟩
theorem cv_thr {th m : Nat} (hth : th = 2 ∨ th = 26) (hm : m < 8) : ps_c0 th 4 = th + 5 ∧ ps_ln (th + 5) = 8 ∧ ps_e0 (th + 5) m = th + 8 + 2 * m ∧ ps_is (th + 8 + 2 * m) 5 = true := by
  rcases hth with rfl | rfl <;> rcases (show m = 0 ∨ m = 1 ∨ m = 2 ∨ m = 3 ∨ m = 4 ∨ m = 5 ∨ m = 6 ∨ m = 7 from by omega) with rfl | rfl | rfl | rfl | rfl | rfl | rfl | rfl <;> decide +kernel
theorem fs_135 {n : Nat} {th m : Nat} {x1 : Int32} {s : ps_S} {R : Nat → ps_S → Prop} (hth : th = 2 ∨ th = 26) (hx : x1.toInt = m) (hm : m < 8) (k : R (th + 8 + 2 * m) s) : pl_Cl n 135 [.ref th, .int x1] s (ps_rA R) := by
  cases n with
  | zero => exact pl_At_0
  | succ n =>
  show pl_At (n + 1) 135 0 [(0, .ref th), (1, .int x1)] [] s (ps_rA R)
  obtain ⟨t1, t2, t3, -⟩ := cv_thr hth hm
  have t40 : (nI (ps_ln (ps_c0 th 4))).toInt = 8 := by rw [t1, t2]; decide
  refine pl_135_0 ?_
  refine ⟨fun h1 => ?_, fun h1 => ?_⟩
  · have h1 : x1.toInt < (0 : Int) := xlt h1
    refine pl_nk_i (fun nk23 => ?_)
    exfalso; omega
  · have h1 : (0 : Int) ≤ x1.toInt := xle h1
    refine pl_nk_i (fun nk6 => ?_)
    refine pl_nk_i (fun nk9 => ?_)
    refine ⟨fun h10 => ?_, fun h10 => ?_⟩
    · have h10 : (nI (ps_ln (ps_c0 th 4))).toInt ≤ x1.toInt := xle h10
      refine pl_nk_i (fun nk23 => ?_)
      exfalso; omega
    · have h10 : x1.toInt < (nI (ps_ln (ps_c0 th 4))).toInt := xlt h10
      refine pl_nk_i (fun nk14 => ?_)
      refine pl_nk_i (fun nk18 => ?_)
      intro b18
      obtain ⟨b18, c18⟩ := pl_in b18
      rw [t1, xtn hx, t3]
      exact k

