set_option maxRecDepth 100000
/-! keep, drop, image, back, about, alike, fault: both sides -/
-- ProofBench$Shelf.put(LProofBench$Step;)I
theorem pl_111_0 {n : Nat} {r0 : Nat} {r1 : Nat} {s : ps_S} {Q : Option Value → ps_S → Prop} (h :
  pl_nk (ps_is r0 7) (((ps_i s r0 5) < 12 →
    pl_nk (ps_is r1 8) (pl_At n 111 18 [(0, .ref r0), (1, .ref r1), (2, .int (ps_i s r1 10)), (3, .int 0)] [] s Q)) ∧
  (12 ≤ (ps_i s r0 5) →
    Q (some (.int (-1))) s))) : pl_At (n + 1) 111 0 [(0, .ref r0), (1, .ref r1)] [] s Q :=
  pl_wp_at (stops := [(18, [0, 1, 2, 3])]) (f := 13) h rfl

theorem pl_111_18 {n : Nat} {r0 : Nat} {r1 : Nat} {x2 : Int32} {x3 : Int32} {s : ps_S} {Q : Option Value → ps_S → Prop} (h :
  pl_nk (ps_is r0 7) (((ps_i s r0 5) ≤ x3 →
    pl_nk (ps_is r0 7) (pl_Cl n 110 [.ref r0, .int (ps_i s r0 5)] s (ps_rA (fun v1 s1 =>
      pl_nk (ps_is r1 8) (pl_Cl n 95 [.ref v1, .ref (ps_c0 r1 6)] s1 (ps_rV (fun s2 =>
        pl_nk (ps_is r0 7) (pl_nk (ps_is r0 7) (pl_nk (ps_is r1 8) (pl_Cl n 183 [.ref (ps_c0 r0 2), .int (ps_i s2 r0 5), .int (ps_i s2 r1 10)] s2 (ps_rV (fun s3 =>
          pl_nk (ps_is r0 7) (pl_nk (ps_is r0 7) (pl_nk (ps_is r1 8) (pl_Cl n 183 [.ref (ps_c0 r0 3), .int (ps_i s3 r0 5), .int (ps_i s3 r1 11)] s3 (ps_rV (fun s4 =>
            pl_nk (ps_is r0 7) (pl_nk (ps_is r0 7) (pl_Cl n 183 [.ref (ps_c0 r0 4), .int (ps_i s4 r0 5), .int x2] s4 (ps_rV (fun s5 =>
              pl_nk (ps_is r0 7) (pl_nk (ps_is r0 7) (pl_nk (ps_is r0 7) (Q (some (.int ((ps_i (ps_ui s5 r0 5 ((ps_i s5 r0 5) + 1)) r0 5) - 1))) (ps_ui s5 r0 5 ((ps_i s5 r0 5) + 1)))))))))))))))))))))))))) ∧
  (x3 < (ps_i s r0 5) →
    pl_nk (ps_is r1 8) (((((ps_i s r1 11) >>> (x3 &&& 31)) &&& 1) = 0 →
      pl_At n 111 18 [(0, .ref r0), (1, .ref r1), (2, .int x2), (3, .int (x3 + 1))] [] s Q) ∧
    ((((ps_i s r1 11) >>> (x3 &&& 31)) &&& 1) ≠ 0 →
      pl_nk (ps_is r0 7) (pl_Cl n 182 [.ref (ps_c0 r0 4), .int x3] s (ps_rI (fun v6 s6 =>
        pl_At n 111 18 [(0, .ref r0), (1, .ref r1), (2, .int (x2 ||| v6)), (3, .int (x3 + 1))] [] s6 Q)))))))) : pl_At (n + 1) 111 18 [(0, .ref r0), (1, .ref r1), (2, .int x2), (3, .int x3)] [] s Q :=
  pl_wp_at (stops := [(18, [0, 1, 2, 3])]) (f := 62) h rfl

-- ProofBench$Shelf.copy(LProofBench$Shelf;)V
theorem pl_112_0 {n : Nat} {r0 : Nat} {r1 : Nat} {s : ps_S} {Q : Option Value → ps_S → Prop} (h :
  pl_nk (ps_is r1 7) (pl_nk (ps_is r0 7) (pl_At n 112 10 [(0, .ref r0), (1, .ref r1), (2, .int 0)] [] (ps_ui s r0 5 (ps_i s r1 5)) Q))) : pl_At (n + 1) 112 0 [(0, .ref r0), (1, .ref r1)] [] s Q :=
  pl_wp_at (stops := [(10, [0, 1, 2])]) (f := 8) h rfl

theorem pl_112_10 {n : Nat} {r0 : Nat} {r1 : Nat} {x2 : Int32} {s : ps_S} {Q : Option Value → ps_S → Prop} (h :
  pl_nk (ps_is r0 7) (((ps_i s r0 5) ≤ x2 →
    Q none s) ∧
  (x2 < (ps_i s r0 5) →
    pl_Cl n 110 [.ref r0, .int x2] s (ps_rA (fun v1 s1 =>
      pl_Cl n 110 [.ref r1, .int x2] s1 (ps_rA (fun v2 s2 =>
        pl_Cl n 95 [.ref v1, .ref v2] s2 (ps_rV (fun s3 =>
          pl_nk (ps_is r0 7) (pl_nk (ps_is r1 7) (pl_Cl n 182 [.ref (ps_c0 r1 2), .int x2] s3 (ps_rI (fun v4 s4 =>
            pl_Cl n 183 [.ref (ps_c0 r0 2), .int x2, .int v4] s4 (ps_rV (fun s5 =>
              pl_nk (ps_is r0 7) (pl_nk (ps_is r1 7) (pl_Cl n 182 [.ref (ps_c0 r1 3), .int x2] s5 (ps_rI (fun v6 s6 =>
                pl_Cl n 183 [.ref (ps_c0 r0 3), .int x2, .int v6] s6 (ps_rV (fun s7 =>
                  pl_nk (ps_is r0 7) (pl_nk (ps_is r1 7) (pl_Cl n 182 [.ref (ps_c0 r1 4), .int x2] s7 (ps_rI (fun v8 s8 =>
                    pl_Cl n 183 [.ref (ps_c0 r0 4), .int x2, .int v8] s8 (ps_rV (fun s9 =>
                      pl_At n 112 10 [(0, .ref r0), (1, .ref r1), (2, .int (x2 + 1))] [] s9 Q))))))))))))))))))))))))))) : pl_At (n + 1) 112 10 [(0, .ref r0), (1, .ref r1), (2, .int x2)] [] s Q :=
  pl_wp_at (stops := [(10, [0, 1, 2])]) (f := 40) h rfl

-- ProofBench$Proof.clear()V
-- ProofBench.keep()I
theorem pl_158_0 {n : Nat} {s : ps_S} {Q : Option Value → ps_S → Prop} (h :
  pl_nk (ps_is (ps_r s 0 4) 2) (((ps_i s (ps_r s 0 4) 9) ≠ 0 →
    Q (some (.int (-1))) s) ∧
  ((ps_i s (ps_r s 0 4) 9) = 0 →
    pl_nk (ps_is (ps_r s 0 4) 2) (((ps_i s (ps_r s 0 4) 8) ≠ 0 →
      pl_nk (ps_is (ps_r s 0 4) 2) (pl_Cl n 33 [.ref (ps_r s 0 4), .int ((ps_i s (ps_r s 0 4) 8) - 1)] s (ps_rA (fun v1 s1 =>
        pl_nk (ps_is v1 8) ((0 < (ps_i s1 v1 8) →
          Q (some (.int (-1))) s1) ∧
        ((ps_i s1 v1 8) ≤ 0 →
          pl_nk (ps_is v1 8) (pl_Cl n 101 [.ref (ps_c0 v1 6)] s1 (ps_rI (fun v2 s2 =>
            (v2 = 0 →
              pl_Cl n 111 [.ref 870, .ref v1] s2 (ps_rI (fun v3 s3 =>
                Q (some (.int v3)) s3))) ∧
            (v2 ≠ 0 →
              Q (some (.int (-1))) s2)))))))))) ∧
    ((ps_i s (ps_r s 0 4) 8) = 0 →
      Q (some (.int (-1))) s))))) : pl_At (n + 1) 158 0 [(0, .ref 0)] [] s Q :=
  pl_wp_at (stops := []) (f := 39) h rfl

-- ProofBench.drop()I
theorem pl_161_0 {n : Nat} {s : ps_S} {Q : Option Value → ps_S → Prop} (h :
  (0 < (ps_i s 870 5) →
    pl_Cl n 31 [.ref (ps_r (ps_ui s 870 5 ((ps_i s 870 5) - 1)) 0 4)] (ps_ui s 870 5 ((ps_i s 870 5) - 1)) (ps_rV (fun s1 =>
      Q (some (.int (ps_i s1 870 5))) s1))) ∧
  ((ps_i s 870 5) ≤ 0 →
    Q (some (.int (-1))) s)) : pl_At (n + 1) 161 0 [(0, .ref 0)] [] s Q :=
  pl_wp_at (stops := []) (f := 22) h rfl

-- ProofBench.alike()I
theorem pl_164_0 {n : Nat} {s : ps_S} {Q : Option Value → ps_S → Prop} (h :
  pl_At n 164 2 [(0, .ref 0), (1, .int 0)] [] s Q) : pl_At (n + 1) 164 0 [(0, .ref 0)] [] s Q :=
  pl_wp_at (stops := [(2, [0, 1])]) (f := 4) h rfl

theorem pl_164_2 {n : Nat} {x1 : Int32} {s : ps_S} {Q : Option Value → ps_S → Prop} (h :
  pl_nk (ps_is (ps_r s 0 4) 2) (((ps_i s (ps_r s 0 4) 8) ≤ x1 →
    Q (some (.int (-1))) s) ∧
  (x1 < (ps_i s (ps_r s 0 4) 8) →
    pl_Cl n 33 [.ref (ps_r s 0 4), .int x1] s (ps_rA (fun v1 s1 =>
      pl_nk (ps_is v1 8) (pl_Cl n 98 [.ref (ps_c0 v1 6), .ref 934] s1 (ps_rI (fun v2 s2 =>
        (v2 = 0 →
          pl_At n 164 2 [(0, .ref 0), (1, .int (x1 + 1))] [] s2 Q) ∧
        (v2 ≠ 0 →
          Q (some (.int x1)) s2))))))))) : pl_At (n + 1) 164 2 [(0, .ref 0), (1, .int x1)] [] s Q :=
  pl_wp_at (stops := [(2, [0, 1])]) (f := 22) h rfl

-- ProofBench.image(I)I
theorem pl_176_0 {n : Nat} {x1 : Int32} {s : ps_S} {Q : Option Value → ps_S → Prop} (h :
  (x1 < 0 →
    Q (some (.int (-1))) s) ∧
  (0 ≤ x1 →
    (x1 < (nI 3) →
      pl_Cl n 180 [.ref 0, .int x1] s (ps_rA (fun v1 s1 =>
        pl_Cl n 112 [.ref v1, .ref 870] s1 (ps_rV (fun s2 =>
          pl_Cl n 180 [.ref 0, .int x1] s2 (ps_rA (fun v3 s3 =>
            pl_nk (ps_is v3 7) (Q (some (.int (ps_i (ps_ui s3 v3 6 1) 870 5))) (ps_ui s3 v3 6 1))))))))) ∧
    ((nI 3) ≤ x1 →
      Q (some (.int (-1))) s))) : pl_At (n + 1) 176 0 [(0, .ref 0), (1, .int x1)] [] s Q :=
  pl_wp_at (stops := []) (f := 28) h rfl

-- ProofBench.back(I)I
theorem pl_177_0 {n : Nat} {x1 : Int32} {s : ps_S} {Q : Option Value → ps_S → Prop} (h :
  (x1 < 0 →
    Q (some (.int (-1))) s) ∧
  (0 ≤ x1 →
    ((nI 3) ≤ x1 →
      Q (some (.int (-1))) s) ∧
    (x1 < (nI 3) →
      pl_Cl n 180 [.ref 0, .int x1] s (ps_rA (fun v1 s1 =>
        pl_nk (ps_is v1 7) (((ps_i s1 v1 6) ≠ 0 →
          pl_Cl n 180 [.ref 0, .int x1] s1 (ps_rA (fun v2 s2 =>
            pl_Cl n 112 [.ref 870, .ref v2] s2 (ps_rV (fun s3 =>
              pl_Cl n 31 [.ref (ps_r s3 0 4)] s3 (ps_rV (fun s4 =>
                Q (some (.int (ps_i s4 870 5))) s4))))))) ∧
        ((ps_i s1 v1 6) = 0 →
          Q (some (.int (-1))) s1))))))) : pl_At (n + 1) 177 0 [(0, .ref 0), (1, .int x1)] [] s Q :=
  pl_wp_at (stops := []) (f := 33) h rfl

-- ProofBench.about(I)I
theorem pl_178_0 {n : Nat} {x1 : Int32} {s : ps_S} {Q : Option Value → ps_S → Prop} (h :
  (x1 = 0 →
    pl_nk (ps_is (ps_r s 0 2) 9) (Q (some (.int (ps_i s (ps_r s 0 2) 6))) s)) ∧
  (x1 ≠ 0 →
    (x1 = 1 →
    pl_nk (ps_is (ps_r s 0 2) 9) (Q (some (.int (ps_i s (ps_r s 0 2) 7))) s)) ∧
  (x1 ≠ 1 →
    (x1 = 2 →
    pl_nk (ps_is (ps_r s 0 2) 9) (Q (some (.int (ps_i s (ps_r s 0 2) 8))) s)) ∧
  (x1 ≠ 2 →
    (x1 = 3 →
    pl_nk (ps_is (ps_r s 0 4) 2) (Q (some (.int (ps_i s (ps_r s 0 4) 8))) s)) ∧
  (x1 ≠ 3 →
    (x1 = 4 →
    Q (some (.int (ps_i s 870 5))) s) ∧
  (x1 ≠ 4 →
    (x1 = 5 →
    Q (some (.int (ps_i s 0 1))) s) ∧
  (x1 ≠ 5 →
    (x1 = 6 →
    Q (some (.int (ps_i s 934 1))) s) ∧
  (x1 ≠ 6 →
    Q (some (.int (-1))) s)))))))) : pl_At (n + 1) 178 0 [(0, .ref 0), (1, .int x1)] [] s Q :=
  pl_wp_at (stops := []) (f := 33) h rfl

-- ProofBench.boxAt(I)LProofBench$Shelf;
-- ProofBench.fault(I)I
theorem pl_152_0 {n : Nat} {x1 : Int32} {s : ps_S} {Q : Option Value → ps_S → Prop} (h :
  (x1 = 0 →
    Q (some (.int (ps_i s 902 9))) s) ∧
  (x1 ≠ 0 →
    (x1 = 1 →
    Q (some (.int (ps_i s 902 10))) s) ∧
  (x1 ≠ 1 →
    Q (some (.int (-1))) s))) : pl_At (n + 1) 152 0 [(0, .ref 0), (1, .int x1)] [] s Q :=
  pl_wp_at (stops := []) (f := 14) h rfl

-- ProofBenchModel.fault(I)I
theorem pl_199_0 {n : Nat} {x1 : Int32} {s : ps_S} {Q : Option Value → ps_S → Prop} (h :
  (x1 ≠ 0 →
    (x1 ≠ 1 →
      Q (some (.int (-1))) s) ∧
    (x1 = 1 →
      Q (some (.int (ps_i s 1131 6))) s)) ∧
  (x1 = 0 →
    Q (some (.int (ps_i s 1131 5))) s)) : pl_At (n + 1) 199 0 [(0, .ref 1131), (1, .int x1)] [] s Q :=
  pl_wp_at (stops := []) (f := 17) h rfl

-- ProofBenchModel.keep()I
theorem pl_268_0 {n : Nat} {s : ps_S} {Q : Option Value → ps_S → Prop} (h :
  (0 ≤ (ps_i s 1131 48) →
    Q (some (.int (-1))) s) ∧
  ((ps_i s 1131 48) < 0 →
    ((ps_i s 1131 47) = 0 →
      Q (some (.int (-1))) s) ∧
    ((ps_i s 1131 47) ≠ 0 →
      (pm_in ((ps_i s 1131 47) - 1) 41 = true →
        (0 < (ps_a s 1157 (Int32.toNatClampNeg ((ps_i s 1131 47) - 1))) →
          Q (some (.int (-1))) s) ∧
        ((ps_a s 1157 (Int32.toNatClampNeg ((ps_i s 1131 47) - 1))) ≤ 0 →
          ((ps_i s 1131 54) ≠ 12 →
            pl_Cl n 242 [.int ((ps_i s 1131 47) - 1)] s (ps_rI (fun v1 s1 =>
              pl_At n 268 51 [(0, .ref 1131), (1, .int v1), (2, .int 0)] [] s1 Q))) ∧
          ((ps_i s 1131 54) = 12 →
            Q (some (.int (-1))) s)))))) : pl_At (n + 1) 268 0 [(0, .ref 1131)] [] s Q :=
  pl_wp_at (stops := [(51, [0, 1, 2])]) (f := 36) h rfl

theorem pl_268_51 {n : Nat} {x1 : Int32} {x2 : Int32} {s : ps_S} {Q : Option Value → ps_S → Prop} (h :
  pl_Cl n 219 [.ref 1131, .int x1] s (ps_rI (fun v1 s1 =>
    (v1 ≤ x2 →
      pl_Cl n 224 [.ref 1131, .int x1, .int ((21320 : Int32) + ((41 : Int32) * (ps_i s1 1131 54)))] s1 (ps_rV (fun s2 =>
        (pm_in ((ps_i s2 1131 47) - 1) 40 = true →
          (pm_in (ps_i s2 1131 54) 12 = true →
            (pm_in ((ps_i (ps_ua s2 1161 (Int32.toNatClampNeg (ps_i s2 1131 54)) (ps_a s2 1158 (Int32.toNatClampNeg ((ps_i s2 1131 47) - 1)))) 1131 47) - 1) 40 = true →
              (pm_in (ps_i (ps_ua s2 1161 (Int32.toNatClampNeg (ps_i s2 1131 54)) (ps_a s2 1158 (Int32.toNatClampNeg ((ps_i s2 1131 47) - 1)))) 1131 54) 12 = true →
                Q (some (.int ((ps_i (ps_ui (ps_ua (ps_ua s2 1161 (Int32.toNatClampNeg (ps_i s2 1131 54)) (ps_a s2 1158 (Int32.toNatClampNeg ((ps_i s2 1131 47) - 1)))) 1162 (Int32.toNatClampNeg (ps_i (ps_ua s2 1161 (Int32.toNatClampNeg (ps_i s2 1131 54)) (ps_a s2 1158 (Int32.toNatClampNeg ((ps_i s2 1131 47) - 1)))) 1131 54)) (ps_a (ps_ua s2 1161 (Int32.toNatClampNeg (ps_i s2 1131 54)) (ps_a s2 1158 (Int32.toNatClampNeg ((ps_i s2 1131 47) - 1)))) 1159 (Int32.toNatClampNeg ((ps_i (ps_ua s2 1161 (Int32.toNatClampNeg (ps_i s2 1131 54)) (ps_a s2 1158 (Int32.toNatClampNeg ((ps_i s2 1131 47) - 1)))) 1131 47) - 1)))) 1131 54 ((ps_i (ps_ua (ps_ua s2 1161 (Int32.toNatClampNeg (ps_i s2 1131 54)) (ps_a s2 1158 (Int32.toNatClampNeg ((ps_i s2 1131 47) - 1)))) 1162 (Int32.toNatClampNeg (ps_i (ps_ua s2 1161 (Int32.toNatClampNeg (ps_i s2 1131 54)) (ps_a s2 1158 (Int32.toNatClampNeg ((ps_i s2 1131 47) - 1)))) 1131 54)) (ps_a (ps_ua s2 1161 (Int32.toNatClampNeg (ps_i s2 1131 54)) (ps_a s2 1158 (Int32.toNatClampNeg ((ps_i s2 1131 47) - 1)))) 1159 (Int32.toNatClampNeg ((ps_i (ps_ua s2 1161 (Int32.toNatClampNeg (ps_i s2 1131 54)) (ps_a s2 1158 (Int32.toNatClampNeg ((ps_i s2 1131 47) - 1)))) 1131 47) - 1)))) 1131 54) + 1)) 1131 54) - 1))) (ps_ui (ps_ua (ps_ua s2 1161 (Int32.toNatClampNeg (ps_i s2 1131 54)) (ps_a s2 1158 (Int32.toNatClampNeg ((ps_i s2 1131 47) - 1)))) 1162 (Int32.toNatClampNeg (ps_i (ps_ua s2 1161 (Int32.toNatClampNeg (ps_i s2 1131 54)) (ps_a s2 1158 (Int32.toNatClampNeg ((ps_i s2 1131 47) - 1)))) 1131 54)) (ps_a (ps_ua s2 1161 (Int32.toNatClampNeg (ps_i s2 1131 54)) (ps_a s2 1158 (Int32.toNatClampNeg ((ps_i s2 1131 47) - 1)))) 1159 (Int32.toNatClampNeg ((ps_i (ps_ua s2 1161 (Int32.toNatClampNeg (ps_i s2 1131 54)) (ps_a s2 1158 (Int32.toNatClampNeg ((ps_i s2 1131 47) - 1)))) 1131 47) - 1)))) 1131 54 ((ps_i (ps_ua (ps_ua s2 1161 (Int32.toNatClampNeg (ps_i s2 1131 54)) (ps_a s2 1158 (Int32.toNatClampNeg ((ps_i s2 1131 47) - 1)))) 1162 (Int32.toNatClampNeg (ps_i (ps_ua s2 1161 (Int32.toNatClampNeg (ps_i s2 1131 54)) (ps_a s2 1158 (Int32.toNatClampNeg ((ps_i s2 1131 47) - 1)))) 1131 54)) (ps_a (ps_ua s2 1161 (Int32.toNatClampNeg (ps_i s2 1131 54)) (ps_a s2 1158 (Int32.toNatClampNeg ((ps_i s2 1131 47) - 1)))) 1159 (Int32.toNatClampNeg ((ps_i (ps_ua s2 1161 (Int32.toNatClampNeg (ps_i s2 1131 54)) (ps_a s2 1158 (Int32.toNatClampNeg ((ps_i s2 1131 47) - 1)))) 1131 47) - 1)))) 1131 54) + 1))))))))) ∧
    (x2 < v1 →
      pl_Cl n 220 [.ref 1131, .int x1, .int x2] s1 (ps_rI (fun v3 s3 =>
        (v3 < 60 →
          pl_At n 268 51 [(0, .ref 1131), (1, .int x1), (2, .int (x2 + 1))] [] s3 Q) ∧
        (60 ≤ v3 →
          Q (some (.int (-1))) s3))))))) : pl_At (n + 1) 268 51 [(0, .ref 1131), (1, .int x1), (2, .int x2)] [] s Q :=
  pl_wp_at (stops := [(51, [0, 1, 2])]) (f := 61) h rfl

-- ProofBenchModel.noProof()V
theorem pl_272_0 {n : Nat} {s : ps_S} {Q : Option Value → ps_S → Prop} (h :
  Q none (ps_ui (ps_ui (ps_ui s 1131 47 0) 1131 48 (-1)) 1131 49 (-1))) : pl_At (n + 1) 272 0 [(0, .ref 1131)] [] s Q :=
  pl_wp_at (stops := []) (f := 12) h rfl

-- ProofBenchModel.drop()I
theorem pl_273_0 {n : Nat} {s : ps_S} {Q : Option Value → ps_S → Prop} (h :
  ((ps_i s 1131 54) ≠ 0 →
    pl_Cl n 272 [.ref 1131] (ps_ui s 1131 54 ((ps_i s 1131 54) - 1)) (ps_rV (fun s1 =>
      Q (some (.int (ps_i s1 1131 54))) s1))) ∧
  ((ps_i s 1131 54) = 0 →
    Q (some (.int (-1))) s)) : pl_At (n + 1) 273 0 [(0, .ref 1131)] [] s Q :=
  pl_wp_at (stops := []) (f := 18) h rfl

-- ProofBenchModel.alike()I
theorem pl_276_0 {n : Nat} {s : ps_S} {Q : Option Value → ps_S → Prop} (h :
  pl_At n 276 2 [(0, .ref 1131), (1, .int 0)] [] s Q) : pl_At (n + 1) 276 0 [(0, .ref 1131)] [] s Q :=
  pl_wp_at (stops := [(2, [0, 1])]) (f := 4) h rfl

theorem pl_276_2 {n : Nat} {x1 : Int32} {s : ps_S} {Q : Option Value → ps_S → Prop} (h :
  ((ps_i s 1131 47) ≤ x1 →
    Q (some (.int (-1))) s) ∧
  (x1 < (ps_i s 1131 47) →
    pl_Cl n 219 [.ref 1131, .int 25748] s (ps_rI (fun v1 s1 =>
      (v1 ≤ 0 →
        pl_At n 276 2 [(0, .ref 1131), (1, .int (x1 + 1))] [] s1 Q) ∧
      (0 < v1 →
        pl_Cl n 242 [.int x1] s1 (ps_rI (fun v2 s2 =>
          pl_Cl n 222 [.ref 1131, .int v2, .int 25748] s2 (ps_rI (fun v3 s3 =>
            (v3 = 0 →
              pl_At n 276 2 [(0, .ref 1131), (1, .int (x1 + 1))] [] s3 Q) ∧
            (v3 ≠ 0 →
              Q (some (.int x1)) s3)))))))))) : pl_At (n + 1) 276 2 [(0, .ref 1131), (1, .int x1)] [] s Q :=
  pl_wp_at (stops := [(2, [0, 1])]) (f := 24) h rfl

-- ProofBenchModel.image(I)I
theorem pl_305_0 {n : Nat} {x1 : Int32} {s : ps_S} {Q : Option Value → ps_S → Prop} (h :
  pl_Cl n 200 [.int x1, .int 0, .int 2] s (ps_rI (fun v1 s1 =>
    (v1 ≠ 0 →
      (pm_in x1 3 = true →
        pl_At n 305 23 [(0, .ref 1131), (1, .int x1), (2, .int 0)] [] (ps_ua s1 1176 (Int32.toNatClampNeg x1) (ps_i s1 1131 54)) Q)) ∧
    (v1 = 0 →
      Q (some (.int (-1))) s1)))) : pl_At (n + 1) 305 0 [(0, .ref 1131), (1, .int x1)] [] s Q :=
  pl_wp_at (stops := [(23, [0, 1, 2])]) (f := 17) h rfl

theorem pl_305_23 {n : Nat} {x1 : Int32} {x2 : Int32} {s : ps_S} {Q : Option Value → ps_S → Prop} (h :
  ((ps_i s 1131 54) ≤ x2 →
    Q (some (.int (ps_i s 1131 54))) s) ∧
  (x2 < (ps_i s 1131 54) →
    pl_Cl n 224 [.ref 1131, .int ((21320 : Int32) + ((41 : Int32) * x2)), .int ((25830 : Int32) + ((41 : Int32) * (((12 : Int32) * x1) + x2)))] s (ps_rV (fun s1 =>
      (pm_in x2 12 = true →
        (pm_in (((12 : Int32) * x1) + x2) 36 = true →
          (pm_in x2 12 = true →
            (pm_in (((12 : Int32) * x1) + x2) 36 = true →
              pl_At n 305 23 [(0, .ref 1131), (1, .int x1), (2, .int (x2 + 1))] [] (ps_ua (ps_ua s1 1177 (Int32.toNatClampNeg (((12 : Int32) * x1) + x2)) (ps_a s1 1161 (Int32.toNatClampNeg x2))) 1178 (Int32.toNatClampNeg (((12 : Int32) * x1) + x2)) (ps_a (ps_ua s1 1177 (Int32.toNatClampNeg (((12 : Int32) * x1) + x2)) (ps_a s1 1161 (Int32.toNatClampNeg x2))) 1162 (Int32.toNatClampNeg x2))) Q)))))))) : pl_At (n + 1) 305 23 [(0, .ref 1131), (1, .int x1), (2, .int x2)] [] s Q :=
  pl_wp_at (stops := [(23, [0, 1, 2])]) (f := 51) h rfl

-- ProofBenchModel.back(I)I
theorem pl_306_0 {n : Nat} {x1 : Int32} {s : ps_S} {Q : Option Value → ps_S → Prop} (h :
  pl_Cl n 200 [.int x1, .int 0, .int 2] s (ps_rI (fun v1 s1 =>
    (v1 = 0 →
      Q (some (.int (-1))) s1) ∧
    (v1 ≠ 0 →
      (pm_in x1 3 = true →
        (0 ≤ (ps_a s1 1176 (Int32.toNatClampNeg x1)) →
          (pm_in x1 3 = true →
            pl_At n 306 32 [(0, .ref 1131), (1, .int x1), (2, .int 0)] [] (ps_ui s1 1131 54 (ps_a s1 1176 (Int32.toNatClampNeg x1))) Q)) ∧
        ((ps_a s1 1176 (Int32.toNatClampNeg x1)) < 0 →
          Q (some (.int (-1))) s1)))))) : pl_At (n + 1) 306 0 [(0, .ref 1131), (1, .int x1)] [] s Q :=
  pl_wp_at (stops := [(32, [0, 1, 2])]) (f := 24) h rfl

theorem pl_306_32 {n : Nat} {x1 : Int32} {x2 : Int32} {s : ps_S} {Q : Option Value → ps_S → Prop} (h :
  ((ps_i s 1131 54) ≤ x2 →
    pl_Cl n 272 [.ref 1131] s (ps_rV (fun s1 =>
      Q (some (.int (ps_i s1 1131 54))) s1))) ∧
  (x2 < (ps_i s 1131 54) →
    pl_Cl n 224 [.ref 1131, .int ((25830 : Int32) + ((41 : Int32) * (((12 : Int32) * x1) + x2))), .int ((21320 : Int32) + ((41 : Int32) * x2))] s (ps_rV (fun s2 =>
      (pm_in (((12 : Int32) * x1) + x2) 36 = true →
        (pm_in x2 12 = true →
          (pm_in (((12 : Int32) * x1) + x2) 36 = true →
            (pm_in x2 12 = true →
              pl_At n 306 32 [(0, .ref 1131), (1, .int x1), (2, .int (x2 + 1))] [] (ps_ua (ps_ua s2 1161 (Int32.toNatClampNeg x2) (ps_a s2 1177 (Int32.toNatClampNeg (((12 : Int32) * x1) + x2)))) 1162 (Int32.toNatClampNeg x2) (ps_a (ps_ua s2 1161 (Int32.toNatClampNeg x2) (ps_a s2 1177 (Int32.toNatClampNeg (((12 : Int32) * x1) + x2)))) 1178 (Int32.toNatClampNeg (((12 : Int32) * x1) + x2)))) Q)))))))) : pl_At (n + 1) 306 32 [(0, .ref 1131), (1, .int x1), (2, .int x2)] [] s Q :=
  pl_wp_at (stops := [(32, [0, 1, 2])]) (f := 53) h rfl

-- ProofBenchModel.about(I)I
theorem pl_307_0 {n : Nat} {x1 : Int32} {s : ps_S} {Q : Option Value → ps_S → Prop} (h :
  (x1 = 0 →
    (pm_in (ps_i s 1131 21) 2 = true →
      Q (some (.int (ps_a s 1135 (Int32.toNatClampNeg (ps_i s 1131 21))))) s)) ∧
  (x1 ≠ 0 →
    (x1 = 1 →
    (pm_in (ps_i s 1131 21) 2 = true →
      Q (some (.int (ps_a s 1136 (Int32.toNatClampNeg (ps_i s 1131 21))))) s)) ∧
  (x1 ≠ 1 →
    (x1 = 2 →
    (pm_in (ps_i s 1131 21) 2 = true →
      Q (some (.int (ps_a s 1137 (Int32.toNatClampNeg (ps_i s 1131 21))))) s)) ∧
  (x1 ≠ 2 →
    (x1 = 3 →
    Q (some (.int (ps_i s 1131 47))) s) ∧
  (x1 ≠ 3 →
    (x1 = 4 →
    Q (some (.int (ps_i s 1131 54))) s) ∧
  (x1 ≠ 4 →
    (x1 = 5 →
    Q (some (.int (ps_i s 1131 3))) s) ∧
  (x1 ≠ 5 →
    (x1 = 6 →
    pl_Cl n 219 [.ref 1131, .int 25748] s (ps_rI (fun v1 s1 =>
      Q (some (.int v1)) s1))) ∧
  (x1 ≠ 6 →
    Q (some (.int (-1))) s)))))))) : pl_At (n + 1) 307 0 [(0, .ref 1131), (1, .int x1)] [] s Q :=
  pl_wp_at (stops := []) (f := 37) h rfl

-- ProofBenchModel.stepRow(I)I
-- ProofBenchModel.copyRow(II)V
def kp_ok (D : List tq_R) (c : Nat) (Θ : List tq_H) (R : tq_R) : Prop := c = 0 ∧ D[D.length - 1]? = some R ∧ R.2.1 = [] ∧ (∀ x, x ∈ R.1 → x < 60) ∧ Θ.length < 12
def kp_q (Θ : List tq_H) (R : tq_R) : tq_H := (R.1, R.2.2.1, R.2.2.2.1, R.2.2.1 ||| orb (tq_hT Θ) R.2.2.2.1 Θ.length)
/-- what keep() comes to -/
def kp_is (D : List tq_R) (c : Nat) (Θ : List tq_H) (v : Int32) (Θ' : List tq_H) : Prop := (∃ R, kp_ok D c Θ R ∧ v.toInt = Θ.length ∧ Θ' = Θ ++ [kp_q Θ R]) ∨ ((∀ R, ¬ kp_ok D c Θ R) ∧ v.toInt = -1 ∧ Θ' = Θ)
theorem kp_eq {D : List tq_R} {c : Nat} {Θ Θ1 Θ2 : List tq_H} {v1 v2 : Int32} (h : kp_is D c Θ v1 Θ1) (h' : kp_is D c Θ v2 Θ2) : v1 = v2 ∧ Θ1 = Θ2 := by
  rcases h with ⟨R, k, e, q⟩ | ⟨k, e, q⟩ <;> rcases h' with ⟨R', k', e', q'⟩ | ⟨k', e', q'⟩
  · have z : R = R' := Option.some.inj (k.2.1.symm.trans k'.2.1)
    subst z
    exact ⟨Int32.toInt_inj.mp (by rw [e, e']), by rw [q, q']⟩
  · exact absurd k (k' R)
  · exact absurd k' (k R')
  · exact ⟨Int32.toInt_inj.mp (by rw [e, e']), by rw [q, q']⟩
theorem snoc_at {α : Type} {l : List α} {x y : α} {k : Nat} (h : (l ++ [x])[k]? = some y) : (k < l.length ∧ l[k]? = some y) ∨ (k = l.length ∧ x = y) := by
  by_cases hk : k < l.length
  · rw [List.getElem?_append_left hk] at h
    exact Or.inl ⟨hk, h⟩
  · have hl := (List.getElem?_eq_some_iff.mp h).1
    rw [List.length_append, List.length_singleton] at hl
    have e : k = l.length := by omega
    rw [e, List.getElem?_append_right (Nat.le_refl _), Nat.sub_self, List.getElem?_cons_zero] at h
    exact Or.inr ⟨e, Option.some.inj h⟩
theorem cSh_add {s s' : ps_S} {q : Nat} {Θ : List tq_H} {x : tq_H} (S : cSh s q Θ) (h12 : Θ.length < 12) (W : cv_W s' (q + 7 + 2 * Θ.length) x.1) (a4 : ps_a s' (q + 4) Θ.length = x.2.1) (a5 : ps_a s' (q + 5) Θ.length = x.2.2.1) (a6 : ps_a s' (q + 6) Θ.length = x.2.2.2) (ho : ∀ k, k < Θ.length → (∀ l, cv_W s (q + 7 + 2 * k) l → cv_W s' (q + 7 + 2 * k) l) ∧ ps_a s' (q + 4) k = ps_a s (q + 4) k ∧ ps_a s' (q + 5) k = ps_a s (q + 5) k ∧ ps_a s' (q + 6) k = ps_a s (q + 6) k) (h5 : (ps_i s' q 5).toInt = (Θ.length + 1 : Nat)) : cSh s' q (Θ ++ [x]) := by
  obtain ⟨z1, z2, z3⟩ := S
  have hlen : (Θ ++ [x]).length = Θ.length + 1 := List.length_append
  refine ⟨by rw [hlen]; exact h5, by omega, fun k y hk => ?_⟩
  rcases snoc_at hk with ⟨hl, hk⟩ | ⟨rfl, rfl⟩
  · obtain ⟨w, e4, e5, e6⟩ := z3 k y hk
    obtain ⟨o1, o2, o3, o4⟩ := ho k hl
    exact ⟨o1 _ w, o2.trans e4, o3.trans e5, o4.trans e6⟩
  · exact ⟨W, a4, a5, a6⟩
section KP1
variable {Θ : List tq_H} {s : ps_S} {t : Nat} {l : List Nat}
theorem fs_111_18 {R : Int32 → ps_S → Prop} (S : cSh s 870 Θ) (h12 : Θ.length < 12) (ht : ps_is t 8 = true) (h9 : t + 8 < 870) (W : cv_W s (t + 6) l) (k : ∀ (v : Int32) (s' : ps_S), v.toInt = Θ.length → cSh s' 870 (Θ ++ [(l, ps_i s t 10, ps_i s t 11, ps_i s t 10 ||| orb (tq_hT Θ) (ps_i s t 11) Θ.length)]) → cfr C158 s s' → R v s') : ∀ (n : Nat) {x2 x3 : Int32} {m : Nat}, x3.toInt = m → m ≤ Θ.length → x2 = ps_i s t 10 ||| orb (tq_hT Θ) (ps_i s t 11) m → pl_At n 111 18 [(0, .ref 870), (1, .ref t), (2, .int x2), (3, .int x3)] [] s (ps_rI R)
  | 0, _, _, _, _, _, _ => pl_At_0
  | n + 1, x2, x3, m, h3, hm, h2 => by
    obtain ⟨z1, z2, z3⟩ := id S
    have q0 : shq 870 := Or.inl rfl
    obtain ⟨-, ⟨-, -, c2, c3, c4⟩, ⟨-, n4, n5, n6⟩, -⟩ := shf q0
    have c6 := (str ht (by omega)).1.2.2.2.1
    have r6 := (str ht (by omega)).2.2.2.2
    have hx3 : x3 = nI m := xnI h3
    refine pl_111_18 (pl_nk_i (fun _ => ⟨fun w => pl_nk_i (fun _ => ?_), fun w => pl_nk_i (fun _ => ⟨fun y => ?_, fun y => pl_nk_i (fun _ => ?_)⟩)⟩))
    · have w : (ps_i s 870 5).toInt ≤ x3.toInt := xle w
      have em : m = Θ.length := by omega
      refine fs_110 q0 z1 h12 (pl_nk_i (fun _ => ?_))
      rw [c6]
      have rr := r12_is (n1 := Θ.length) h12
      refine fs_95 rr r6 ⟨by omega, by omega, by omega⟩ W (fun s1 W1 F1 => pl_nk_i (fun _ => pl_nk_i (fun _ => pl_nk_i (fun _ => ?_))))
      have nC : ∀ q, q < 877 → ¬ C2 (870 + 7 + 2 * Θ.length) q := fun q a z => by unfold C2 at z; omega
      have f5 : ps_i s1 870 5 = ps_i s 870 5 := (F1 870 (nC _ (by omega))).1 5
      have ft : ∀ f, ps_i s1 t f = ps_i s t f := (F1 t (nC _ (by omega))).1
      rw [c2, c3, c4]
      refine fs_183 (a := Θ.length) (by rw [f5]; exact z1) (by omega) (by omega) (pl_nk_i (fun _ => pl_nk_i (fun _ => pl_nk_i (fun _ => ?_))))
      refine fs_183 (a := Θ.length) (by show (ps_i s1 870 5).toInt = _; rw [f5]; exact z1) (by omega) (by omega) (pl_nk_i (fun _ => pl_nk_i (fun _ => ?_)))
      refine fs_183 (a := Θ.length) (by show (ps_i s1 870 5).toInt = _; rw [f5]; exact z1) (by omega) (by omega) (pl_nk_i (fun _ => pl_nk_i (fun _ => pl_nk_i (fun _ => ?_))))
      have F2 : cfr (fun q => q = 874 ∨ q = 875 ∨ q = 876) s1 (ps_ua (ps_ua (ps_ua s1 874 Θ.length (ps_i s1 t 10)) 875 Θ.length (ps_i (ps_ua s1 874 Θ.length (ps_i s1 t 10)) t 11)) 876 Θ.length x2) := cfr_a (cfr_a (cfr_a cfr_refl (Or.inl rfl)) (Or.inr (Or.inl rfl))) (Or.inr (Or.inr rfl))
      have b4 : ∀ k, ps_a (ps_ua (ps_ua (ps_ua s1 874 Θ.length (ps_i s1 t 10)) 875 Θ.length (ps_i (ps_ua s1 874 Θ.length (ps_i s1 t 10)) t 11)) 876 Θ.length x2) 874 k = if k = Θ.length then ps_i s t 10 else ps_a s1 874 k := fun k => by
        rw [ps_a_ua, if_neg (by omega), ps_a_ua, if_neg (by omega), ps_a_ua, ft]
        by_cases e : k = Θ.length
        · rw [if_pos ⟨rfl, e⟩, if_pos e]
        · rw [if_neg (fun z => e z.2), if_neg e]
      have b5 : ∀ k, ps_a (ps_ua (ps_ua (ps_ua s1 874 Θ.length (ps_i s1 t 10)) 875 Θ.length (ps_i (ps_ua s1 874 Θ.length (ps_i s1 t 10)) t 11)) 876 Θ.length x2) 875 k = if k = Θ.length then ps_i s t 11 else ps_a s1 875 k := fun k => by
        rw [ps_a_ua, if_neg (by omega), ps_a_ua]
        by_cases e : k = Θ.length
        · rw [if_pos ⟨rfl, e⟩, if_pos e]
          exact ft 11
        · rw [if_neg (fun z => e z.2), if_neg e, ps_a_ua, if_neg (by omega)]
      have b6 : ∀ k, ps_a (ps_ua (ps_ua (ps_ua s1 874 Θ.length (ps_i s1 t 10)) 875 Θ.length (ps_i (ps_ua s1 874 Θ.length (ps_i s1 t 10)) t 11)) 876 Θ.length x2) 876 k = if k = Θ.length then x2 else ps_a s1 876 k := fun k => by
        rw [ps_a_ua]
        by_cases e : k = Θ.length
        · rw [if_pos ⟨rfl, e⟩, if_pos e]
        · rw [if_neg (fun z => e z.2), if_neg e, ps_a_ua, if_neg (by omega), ps_a_ua, if_neg (by omega)]
      have b1 : ∀ q f, ps_i (ps_ua (ps_ua (ps_ua s1 874 Θ.length (ps_i s1 t 10)) 875 Θ.length (ps_i (ps_ua s1 874 Θ.length (ps_i s1 t 10)) t 11)) 876 Θ.length x2) q f = ps_i s1 q f := fun q f => rfl
      generalize ps_ua (ps_ua (ps_ua s1 874 Θ.length (ps_i s1 t 10)) 875 Θ.length (ps_i (ps_ua s1 874 Θ.length (ps_i s1 t 10)) t 11)) 876 Θ.length x2 = s2 at F2 b4 b5 b6 b1 ⊢
      have F3 : cfr (fun q => q = 870) s2 (ps_ui s2 870 5 (ps_i s2 870 5 + 1)) := cfr_i cfr_refl rfl
      have g5 : ps_i (ps_ui s2 870 5 (ps_i s2 870 5 + 1)) 870 5 = ps_i s2 870 5 + 1 := by rw [ps_i_ui, if_pos ⟨rfl, rfl⟩]
      have e5 : (ps_i s2 870 5).toInt = Θ.length := by
        rw [b1, f5]
        exact z1
      have g5' : (ps_i s2 870 5 + 1).toInt = (Θ.length + 1 : Nat) := xj1 e5 (by omega)
      have h1 : (1 : Int32).toInt = 1 := by decide
      rw [g5]
      have n2 : ∀ q, q < 874 ∨ 876 < q → ¬ (fun q => q = 874 ∨ q = 875 ∨ q = 876) q := fun q a z => by
        have z : q = 874 ∨ q = 875 ∨ q = 876 := z
        omega
      have n3 : ∀ q, q ≠ 870 → ¬ (fun q => q = 870) q := fun q a z => a z
      refine k _ _ (by rw [xIs (by omega) (by omega), g5', h1]; omega) (cSh_add S h12 ?_ ?_ ?_ ?_ (fun j hj => ⟨fun l' hl => ?_, ?_, ?_, ?_⟩) (by rw [g5]; exact g5')) ?_
      · exact cv_W_cfr (cv_W_cfr W1 F2 (n2 _ (by omega)) (n2 _ (by omega))) F3 (n3 _ (by omega)) (n3 _ (by omega))
      · show ps_a s2 874 Θ.length = _
        rw [b4, if_pos rfl]
      · show ps_a s2 875 Θ.length = _
        rw [b5, if_pos rfl]
      · show ps_a s2 876 Θ.length = _
        rw [b6, if_pos rfl, h2, em]
      · have hw := cv_W_cfr hl F1 (by unfold C2; omega) (by unfold C2; omega)
        exact cv_W_cfr (cv_W_cfr hw F2 (n2 _ (by omega)) (n2 _ (by omega))) F3 (n3 _ (by omega)) (n3 _ (by omega))
      · show ps_a s2 874 j = _
        rw [b4, if_neg (by omega), (F1 874 (nC _ (by omega))).2.2.2.1]
      · show ps_a s2 875 j = _
        rw [b5, if_neg (by omega), (F1 875 (nC _ (by omega))).2.2.2.1]
      · show ps_a s2 876 j = _
        rw [b6, if_neg (by omega), (F1 876 (nC _ (by omega))).2.2.2.1]
      · exact cfr_tr (cfr_mono F1 (fun q z => by unfold C2 at z; unfold C158; omega)) (cfr_tr (cfr_mono F2 (fun q z => by
          have z : q = 874 ∨ q = 875 ∨ q = 876 := z
          unfold C158
          omega)) (cfr_mono F3 (fun q z => by
          have z : q = 870 := z
          unfold C158
          omega)))
    · rw [hx3] at y
      refine fs_111_18 S h12 ht h9 W k n (m := m + 1) (xj1 h3 (by omega)) ?_ ?_
      · have w : x3.toInt < (ps_i s 870 5).toInt := xlt w
        omega
      · rw [h2]
        show _ = _ ||| (orb (tq_hT Θ) (ps_i s t 11) m ||| (if bt (ps_i s t 11) m = true then tq_hT Θ m else 0))
        rw [bt_no y, if_neg (by decide), Int32.or_zero]
    · have w : x3.toInt < (ps_i s 870 5).toInt := xlt w
      rw [hx3] at y
      have hmΘ : m < Θ.length := by omega
      obtain ⟨q, hk⟩ : ∃ q, Θ[m]? = some q := ⟨_, List.getElem?_eq_getElem hmΘ⟩
      obtain ⟨-, -, -, e6⟩ := z3 m q hk
      obtain ⟨-, -, t3⟩ := tq_h_at hk
      rw [c4]
      refine fs_182 h3 (by omega) (by omega) ?_
      refine fs_111_18 S h12 ht h9 W k n (m := m + 1) (xj1 h3 (by omega)) (by omega) ?_
      rw [h2, e6, ← t3]
      show _ = _ ||| (orb (tq_hT Θ) (ps_i s t 11) m ||| (if bt (ps_i s t 11) m = true then tq_hT Θ m else 0))
      rw [bt_1 y, if_pos rfl, Int32.or_assoc]
theorem fs_111 {n : Nat} {R : Int32 → ps_S → Prop} (S : cSh s 870 Θ) (ht : ps_is t 8 = true) (h9 : t + 8 < 870) (W : cv_W s (t + 6) l) (k1 : ∀ (v : Int32) (s' : ps_S), Θ.length < 12 → v.toInt = Θ.length → cSh s' 870 (Θ ++ [(l, ps_i s t 10, ps_i s t 11, ps_i s t 10 ||| orb (tq_hT Θ) (ps_i s t 11) Θ.length)]) → cfr C158 s s' → R v s') (k0 : Θ.length = 12 → R (-1) s) : pl_Cl n 111 [.ref 870, .ref t] s (ps_rI R) := by
  cases n with
  | zero => exact pl_At_0
  | succ n =>
  show pl_At (n + 1) 111 0 [(0, .ref 870), (1, .ref t)] [] s (ps_rI R)
  obtain ⟨z1, z2, -⟩ := id S
  refine pl_111_0 (pl_nk_i (fun _ => ⟨fun w => pl_nk_i (fun _ => ?_), fun w => ?_⟩))
  · have w : (ps_i s 870 5).toInt < 12 := xlt w
    exact fs_111_18 S (by omega) ht h9 W (fun v s' a b c => k1 v s' (by omega) a b c) n (m := 0) rfl (Nat.zero_le _) (by show _ = _ ||| (0 : Int32); rw [Int32.or_zero])
  · have w : (12 : Int) ≤ (ps_i s 870 5).toInt := xle w
    exact k0 (by omega)
theorem fs_158 {n p c : Nat} {D : List tq_R} {R : Int32 → ps_S → Prop} (hp : p = 50 ∨ p = 460) (hr : ps_r s 0 4 = p) (P : cpP s p D c) (S : cSh s 870 Θ) (k : ∀ (v : Int32) (s' : ps_S) Θ', kp_is D c Θ v Θ' → cSh s' 870 Θ' → cfr C158 s s' → R v s') : pl_Cl n 158 [.ref 0] s (ps_rI R) := by
  cases n with
  | zero => exact pl_At_0
  | succ n =>
  show pl_At (n + 1) 158 0 [(0, .ref 0)] [] s (ps_rI R)
  obtain ⟨⟨d1, d2⟩, e8, e9⟩ := P
  have c0 : (0 : Int32).toInt = 0 := Int32.toInt_zero
  have c1 : (1 : Int32).toInt = 1 := by decide
  have no : (∀ R, ¬ kp_ok D c Θ R) → R (-1) s := fun z => k _ _ Θ (Or.inr ⟨z, by decide, rfl⟩) S cfr_refl
  refine pl_158_0 ?_
  rw [hr]
  refine pl_nk_i (fun _ => ⟨fun w => ?_, fun w => pl_nk_i (fun _ => ⟨fun w1 => pl_nk_i (fun _ => ?_), fun w1 => ?_⟩)⟩)
  · have w := xne w
    exact no (fun R z => by have := z.1; omega)
  · have w := xeq w
    have w1 := xne w1
    have hD : D.length - 1 < D.length := by omega
    have hx : ((ps_i s p 8) - 1).toInt = (D.length - 1 : Nat) := by rw [xIs (by omega) (by omega), e8, c1]; omega
    refine fs_33 hp hx (by omega) (pl_nk_i (fun _ => ?_))
    obtain ⟨R1, hk⟩ : ∃ R1, D[D.length - 1]? = some R1 := ⟨_, List.getElem?_eq_getElem hD⟩
    obtain ⟨W, f8, -, -, f10, f11, -⟩ := d2 _ R1 hk
    have hi : D.length - 1 < 40 := by omega
    have hlt := stc_lt hp hi
    refine ⟨fun w2 => ?_, fun w2 => pl_nk_i (fun _ => ?_)⟩
    · have w2 : (0 : Int) < (ps_i s (stc p (D.length - 1)) 8).toInt := xlt w2
      refine no (fun R z => ?_)
      have e := Option.some.inj (hk.symm.trans z.2.1)
      rw [e, z.2.2.1] at f8
      have f8 : (ps_i s (stc p (D.length - 1)) 8).toInt = 0 := f8
      omega
    · have w2 : (ps_i s (stc p (D.length - 1)) 8).toInt ≤ 0 := xle w2
      have hA : R1.2.1 = [] := List.eq_nil_of_length_eq_zero (by omega)
      rw [(stc_c hp hi).2.2.2.1]
      refine fs_101 (stc_row hp hi).2.2 W (fun z => ⟨fun w => absurd w (by decide), fun _ => ?_⟩) (fun z => ⟨fun _ => ?_, fun w => absurd rfl w⟩)
      · refine no (fun R z' => ?_)
        have e := Option.some.inj (hk.symm.trans z'.2.1)
        obtain ⟨y, y1, y2⟩ := z
        rw [e] at y1
        have := z'.2.2.2.1 y y1
        omega
      · refine fs_111 S (stc_is hp hi) (by unfold stc; omega) W (fun v s' h12 hv hS F => ?_) (fun h12 => ?_)
        · rw [f10, f11] at hS
          exact k _ _ _ (Or.inl ⟨R1, ⟨by omega, hk, hA, z, h12⟩, hv, rfl⟩) hS F
        · exact no (fun R z => by have := z.2.2.2.2; omega)
  · have w1 := xeq w1
    refine no (fun R z => ?_)
    have := (List.getElem?_eq_some_iff.mp z.2.1).1
    omega
theorem cSh_take {q m : Nat} (S : cSh s q Θ) {s' : ps_S} (h5 : (ps_i s' q 5).toInt = m) (hm : m ≤ Θ.length) (F : cfr (fun r => r = q) s s') : cSh s' q (Θ.take m) := by
  obtain ⟨z1, z2, z3⟩ := S
  have hlen : (Θ.take m).length = m := by rw [List.length_take]; omega
  refine ⟨by rw [hlen]; exact h5, by omega, fun k x hk => ?_⟩
  have hkl := (List.getElem?_eq_some_iff.mp hk).1
  rw [List.getElem?_take, if_pos (by omega)] at hk
  obtain ⟨w, a, b, c⟩ := z3 k x hk
  have nq : ∀ r, r ≠ q → ¬ (fun r => r = q) r := fun r a z => a z
  exact ⟨cv_W_cfr w F (nq _ (by omega)) (nq _ (by omega)), by rw [(F (q + 4) (nq _ (by omega))).2.2.2.1]; exact a, by rw [(F (q + 5) (nq _ (by omega))).2.2.2.1]; exact b, by rw [(F (q + 6) (nq _ (by omega))).2.2.2.1]; exact c⟩
theorem cpP_0 {p : Nat} : cpP (ps_ui (ps_ui (ps_ui s p 7 0) p 8 0) p 9 0) p [] 0 := by
  refine ⟨⟨Nat.zero_le _, fun k R hk => by cases hk⟩, ?_, ?_⟩
  · rw [ps_i_ui, if_neg (by omega), ps_i_ui, if_pos ⟨rfl, rfl⟩]
    rfl
  · rw [ps_i_ui, if_pos ⟨rfl, rfl⟩]
    rfl
theorem fs_31f {n r0 : Nat} {R : ps_S → Prop} (k : R (ps_ui (ps_ui (ps_ui s r0 7 0) r0 8 0) r0 9 0)) : pl_Cl n 31 [.ref r0] s (ps_rV R) := by
  cases n with
  | zero => exact pl_At_0
  | succ n =>
  show pl_At (n + 1) 31 0 [(0, .ref r0)] [] s (ps_rV R)
  exact pl_31_0 (pl_nk_i (fun _ => pl_nk_i (fun _ => pl_nk_i (fun _ => k))))
/-- drop() -/
def dr_is (Θ : List tq_H) (v : Int32) : Prop := (Θ = [] ∧ v.toInt = -1) ∨ (Θ ≠ [] ∧ v.toInt = (Θ.length - 1 : Nat))
theorem fs_161 {n p : Nat} {R : Int32 → ps_S → Prop} (hp : p = 50 ∨ p = 460) (hr : ps_r s 0 4 = p) (S : cSh s 870 Θ) (k0 : Θ = [] → R (-1) s) (k1 : ∀ (v : Int32) (s' : ps_S), Θ ≠ [] → v.toInt = (Θ.length - 1 : Nat) → cSh s' 870 (Θ.take (Θ.length - 1)) → cpP s' p [] 0 → ps_r s' = ps_r s → cfr (fun q => q = 870 ∨ q = p) s s' → R v s') : pl_Cl n 161 [.ref 0] s (ps_rI R) := by
  cases n with
  | zero => exact pl_At_0
  | succ n =>
  show pl_At (n + 1) 161 0 [(0, .ref 0)] [] s (ps_rI R)
  obtain ⟨z1, z2, z3⟩ := id S
  have c1 : (1 : Int32).toInt = 1 := by decide
  refine pl_161_0 ⟨fun w => ?_, fun w => ?_⟩
  · have w : (0 : Int) < (ps_i s 870 5).toInt := xlt w
    have hne : Θ ≠ [] := fun z => by
      rw [z] at z1
      have z1 : (ps_i s 870 5).toInt = 0 := z1
      omega
    have hx : ((ps_i s 870 5) - 1).toInt = (Θ.length - 1 : Nat) := by rw [xIs (by omega) (by omega), z1, c1]; omega
    rw [show ps_r (ps_ui s 870 5 ((ps_i s 870 5) - 1)) 0 4 = p from hr]
    refine fs_31f ?_
    have F1 : cfr (fun r => r = 870) s (ps_ui s 870 5 ((ps_i s 870 5) - 1)) := cfr_i cfr_refl rfl
    have F2 : cfr (fun r => r = p) (ps_ui s 870 5 ((ps_i s 870 5) - 1)) (ps_ui (ps_ui (ps_ui (ps_ui s 870 5 ((ps_i s 870 5) - 1)) p 7 0) p 8 0) p 9 0) := cfr_i (cfr_i (cfr_i cfr_refl rfl) rfl) rfl
    have g5 : ps_i (ps_ui s 870 5 ((ps_i s 870 5) - 1)) 870 5 = (ps_i s 870 5) - 1 := by rw [ps_i_ui, if_pos ⟨rfl, rfl⟩]
    have np : ∀ r, r ≠ p → ¬ (fun r => r = p) r := fun r a z => a z
    refine k1 _ _ hne ?_ (cSh_cfr (cSh_take S (by rw [g5]; exact hx) (by omega) F1) F2 (fun r a b => np _ (by omega))) cpP_0 rfl (cfr_tr (cfr_mono F1 (fun q z => Or.inl z)) (cfr_mono F2 (fun q z => Or.inr z)))
    rw [(F2 870 (np _ (by omega))).1, g5]
    exact hx
  · have w : (ps_i s 870 5).toInt ≤ 0 := xle w
    exact k0 (List.eq_nil_of_length_eq_zero (by omega))
end KP1
/-! shelves copied -/
section CPY
variable {Θ : List tq_H} {s0 : ps_S} {r0 r1 : Nat} {R : ps_S → Prop}
def CQ (r0 q : Nat) : Prop := r0 ≤ q ∧ q ≤ r0 + 30
theorem shq_ap {a b : Nat} (ha : shq a) (hb : shq b) (hne : a ≠ b) : a + 30 < b ∨ b + 30 < a := by
  unfold shq at ha hb
  omega
theorem fs_112_10 (h0 : shq r0) (h1 : shq r1) (hne : r0 ≠ r1) (S : cSh s0 r1 Θ) (k : ∀ s', cSh s' r0 Θ → cfr (CQ r0) s0 s' → ps_i s' r0 6 = ps_i s0 r0 6 → R s') : ∀ (n : Nat) {s : ps_S} {x2 : Int32} {i : Nat}, x2.toInt = i → i ≤ Θ.length → cfr (CQ r0) s0 s → (ps_i s r0 5).toInt = Θ.length → ps_i s r0 6 = ps_i s0 r0 6 → (∀ (j : Nat) (x : tq_H), j < i → Θ[j]? = some x → cv_W s (r0 + 7 + 2 * j) x.1 ∧ ps_a s (r0 + 4) j = x.2.1 ∧ ps_a s (r0 + 5) j = x.2.2.1 ∧ ps_a s (r0 + 6) j = x.2.2.2) → pl_At n 112 10 [(0, .ref r0), (1, .ref r1), (2, .int x2)] [] s (ps_rV R)
  | 0, _, _, _, _, _, _, _, _, _ => pl_At_0
  | n + 1, s, x2, i, h2, hi, F, e5, e6, hj => by
    have ap := shq_ap h0 h1 hne
    obtain ⟨z1, z2, z3⟩ := cSh_cfr S F (fun r a b z => by unfold CQ at z; omega)
    obtain ⟨i0, ⟨-, -, c2, c3, c4⟩, ⟨-, n4, n5, n6⟩, -⟩ := shf h0
    obtain ⟨i1, ⟨-, -, d2, d3, d4⟩, ⟨-, m4, m5, m6⟩, -⟩ := shf h1
    refine pl_112_10 (pl_nk_i (fun _ => ⟨fun w => ?_, fun w => ?_⟩))
    · have w : (ps_i s r0 5).toInt ≤ x2.toInt := xle w
      exact k _ ⟨e5, z2, fun j x hk => hj j x (by have := (List.getElem?_eq_some_iff.mp hk).1; omega) hk⟩ F e6
    · have w : x2.toInt < (ps_i s r0 5).toInt := xlt w
      have hiΘ : i < Θ.length := by omega
      obtain ⟨x, hk⟩ : ∃ x, Θ[i]? = some x := ⟨_, List.getElem?_eq_getElem hiΘ⟩
      obtain ⟨W, a4, a5, a6⟩ := z3 i x hk
      refine fs_110 h0 h2 (by omega) (fs_110 h1 h2 (by omega) ?_)
      refine fs_95 (i0 i (by omega)).2 (i1 i (by omega)).2 ⟨by omega, by omega, by omega⟩ W (fun s1 W1 F1 => pl_nk_i (fun _ => pl_nk_i (fun _ => ?_)))
      have nC : ∀ q, (q < r0 + 7 + 2 * i ∨ r0 + 7 + 2 * i + 1 < q) → ¬ C2 (r0 + 7 + 2 * i) q := fun q a z => by unfold C2 at z; omega
      rw [c2, c3, c4, d2, d3, d4]
      refine fs_182 h2 (by omega) (by omega) (fs_183 h2 (by omega) (by omega) (pl_nk_i (fun _ => pl_nk_i (fun _ => ?_))))
      refine fs_182 h2 (by omega) (by omega) (fs_183 h2 (by omega) (by omega) (pl_nk_i (fun _ => pl_nk_i (fun _ => ?_))))
      refine fs_182 h2 (by omega) (by omega) (fs_183 h2 (by omega) (by omega) ?_)
      have g1 : ∀ q, q = r1 + 4 ∨ q = r1 + 5 ∨ q = r1 + 6 → ps_a s1 q = ps_a s q := fun q hq => (F1 q (nC _ (by omega))).2.2.2.1
      have v4 : ps_a s1 (r1 + 4) i = x.2.1 := by rw [g1 _ (Or.inl rfl)]; exact a4
      have v5 : ps_a (ps_ua s1 (r0 + 4) i (ps_a s1 (r1 + 4) i)) (r1 + 5) i = x.2.2.1 := by
        rw [ps_a_ua, if_neg (by omega), g1 _ (Or.inr (Or.inl rfl))]
        exact a5
      have v6 : ps_a (ps_ua (ps_ua s1 (r0 + 4) i (ps_a s1 (r1 + 4) i)) (r0 + 5) i (ps_a (ps_ua s1 (r0 + 4) i (ps_a s1 (r1 + 4) i)) (r1 + 5) i)) (r1 + 6) i = x.2.2.2 := by
        rw [ps_a_ua, if_neg (by omega), ps_a_ua, if_neg (by omega), g1 _ (Or.inr (Or.inr rfl))]
        exact a6
      rw [v6, v5, v4]
      have F2 : cfr (fun q => r0 + 4 ≤ q ∧ q ≤ r0 + 6) s1 (ps_ua (ps_ua (ps_ua s1 (r0 + 4) i x.2.1) (r0 + 5) i x.2.2.1) (r0 + 6) i x.2.2.2) := cfr_a (cfr_a (cfr_a cfr_refl ⟨by omega, by omega⟩) ⟨by omega, by omega⟩) ⟨by omega, by omega⟩
      have nD : ∀ q, (q < r0 + 4 ∨ r0 + 6 < q) → ¬ (fun q => r0 + 4 ≤ q ∧ q ≤ r0 + 6) q := fun q a z => by
        have z : r0 + 4 ≤ q ∧ q ≤ r0 + 6 := z
        omega
      refine fs_112_10 h0 h1 hne S k n (i := i + 1) (xj1 h2 (by omega)) (by omega) (cfr_tr F (cfr_tr (cfr_mono F1 (fun q z => by unfold C2 at z; unfold CQ; omega)) (cfr_mono F2 (fun q z => by
        have z : r0 + 4 ≤ q ∧ q ≤ r0 + 6 := z
        unfold CQ
        omega)))) ?_ ?_ (fun j y hji hy => ?_)
      · show (ps_i s1 r0 5).toInt = _
        rw [(F1 r0 (nC _ (by omega))).1]
        exact e5
      · show ps_i s1 r0 6 = _
        rw [(F1 r0 (nC _ (by omega))).1]
        exact e6
      · have A : ∀ q, q = r0 + 4 ∨ q = r0 + 5 ∨ q = r0 + 6 → ps_a s1 q = ps_a s q := fun q hq => (F1 q (nC _ (by omega))).2.2.2.1
        by_cases ej : j = i
        · rw [ej] at hy ⊢
          have e := Option.some.inj (hk.symm.trans hy)
          subst e
          refine ⟨cv_W_cfr W1 F2 (nD _ (by omega)) (nD _ (by omega)), ?_, ?_, ?_⟩
          · rw [ps_a_ua, if_neg (by omega), ps_a_ua, if_neg (by omega), ps_a_ua, if_pos ⟨rfl, rfl⟩]
          · rw [ps_a_ua, if_neg (by omega), ps_a_ua, if_pos ⟨rfl, rfl⟩]
          · rw [ps_a_ua, if_pos ⟨rfl, rfl⟩]
        · obtain ⟨w1, w2, w3, w4⟩ := hj j y (by omega) hy
          refine ⟨cv_W_cfr (cv_W_cfr w1 F1 (nC _ (by omega)) (nC _ (by omega))) F2 (nD _ (by omega)) (nD _ (by omega)), ?_, ?_, ?_⟩
          · rw [ps_a_ua, if_neg (by omega), ps_a_ua, if_neg (by omega), ps_a_ua, if_neg (fun z => ej z.2), A _ (Or.inl rfl)]
            exact w2
          · rw [ps_a_ua, if_neg (by omega), ps_a_ua, if_neg (fun z => ej z.2), ps_a_ua, if_neg (by omega), A _ (Or.inr (Or.inl rfl))]
            exact w3
          · rw [ps_a_ua, if_neg (fun z => ej z.2), ps_a_ua, if_neg (by omega), ps_a_ua, if_neg (by omega), A _ (Or.inr (Or.inr rfl))]
            exact w4
theorem fs_112 {n : Nat} (h0 : shq r0) (h1 : shq r1) (hne : r0 ≠ r1) (S : cSh s0 r1 Θ) (k : ∀ s', cSh s' r0 Θ → cfr (CQ r0) s0 s' → ps_i s' r0 6 = ps_i s0 r0 6 → R s') : pl_Cl n 112 [.ref r0, .ref r1] s0 (ps_rV R) := by
  cases n with
  | zero => exact pl_At_0
  | succ n =>
  show pl_At (n + 1) 112 0 [(0, .ref r0), (1, .ref r1)] [] s0 (ps_rV R)
  refine pl_112_0 (pl_nk_i (fun _ => pl_nk_i (fun _ => ?_)))
  refine fs_112_10 h0 h1 hne S k n (i := 0) rfl (Nat.zero_le _) (cfr_i cfr_refl ⟨Nat.le_refl _, Nat.le_add_right _ _⟩) ?_ ?_ (fun j x a => absurd a (Nat.not_lt_zero _))
  · rw [ps_i_ui, if_pos ⟨rfl, rfl⟩]
    exact S.1
  · rw [ps_i_ui, if_neg (by omega)]
end CPY

