set_option maxRecDepth 100000
-- ProofBench$Proof.putInto(LProofBench$Row;LProofBench$Row;LProofBench$Row;)V
theorem pl_52_0 {n : Nat} {r0 : Nat} {r1 : Nat} {r2 : Nat} {r3 : Nat} {s : ps_S} {Q : Option Value → ps_S → Prop} (h :
  pl_nk (ps_is r0 2) (pl_nk (ps_is r0 2) (pl_Cl n 103 [.ref (ps_c0 r0 5), .ref r2, .ref (ps_r s r0 6)] s (ps_rV (fun s1 =>
    pl_Cl n 91 [.ref r1] s1 (ps_rV (fun s2 =>
      pl_At n 52 19 [(0, .ref r0), (1, .ref r1), (2, .ref r2), (3, .ref r3), (4, .int 1)] [] s2 Q))))))) : pl_At (n + 1) 52 0 [(0, .ref r0), (1, .ref r1), (2, .ref r2), (3, .ref r3)] [] s Q :=
  pl_wp_at (stops := [(19, [0, 1, 2, 3, 4])]) (f := 12) h rfl


theorem pl_52_19 {n : Nat} {r0 : Nat} {r1 : Nat} {r2 : Nat} {r3 : Nat} {x4 : Int32} {s : ps_S} {Q : Option Value → ps_S → Prop} (h :
  pl_nk (ps_is r2 5) (((ps_i s r2 1) ≤ x4 →
    Q none s) ∧
  (x4 < (ps_i s r2 1) →
    pl_Cl n 92 [.ref r2, .int x4] s (ps_rI (fun v1 s1 =>
      pl_nk (ps_is r0 2) (pl_Cl n 105 [.ref (ps_c0 r0 5), .int x4] s1 (ps_rI (fun v2 s2 =>
        (v1 ≠ (((40 : Int32) + v2) - 1) →
          pl_Cl n 92 [.ref r2, .int x4] s2 (ps_rI (fun v3 s3 =>
            pl_Cl n 93 [.ref r1, .int v3] s3 (ps_rV (fun s4 =>
              pl_At n 52 19 [(0, .ref r0), (1, .ref r1), (2, .ref r2), (3, .ref r3), (4, .int (x4 + 1))] [] s4 Q))))) ∧
        (v1 = (((40 : Int32) + v2) - 1) →
          pl_nk (ps_is r3 5) (pl_Cl n 94 [.ref r1, .ref r3, .int 0, .int (ps_i s2 r3 1)] s2 (ps_rV (fun s5 =>
            pl_At n 52 19 [(0, .ref r0), (1, .ref r1), (2, .ref r2), (3, .ref r3), (4, .int (x4 + 1))] [] s5 Q)))))))))))) : pl_At (n + 1) 52 19 [(0, .ref r0), (1, .ref r1), (2, .ref r2), (3, .ref r3), (4, .int x4)] [] s Q :=
  pl_wp_at (stops := [(19, [0, 1, 2, 3, 4])]) (f := 35) h rfl


-- ProofBench$Proof.generalise(LProofBench$Step;LProofBench$Row;)I
theorem pl_49_0 {n : Nat} {r0 : Nat} {r1 : Nat} {r2 : Nat} {s : ps_S} {Q : Option Value → ps_S → Prop} (h :
  pl_Cl n 37 [.ref r0, .ref r1, .int 0] s (ps_rA (fun v1 s1 =>
    pl_nk (ps_is r1 8) (pl_nk (ps_is r0 2) (pl_Cl n 51 [.ref r0, .ref v1, .int (ps_i s1 r1 3), .ref (ps_c0 r0 3)] s1 (ps_rI (fun v2 s2 =>
      (v2 = 0 →
        pl_nk (ps_is r0 2) (pl_nk (ps_is r0 2) (pl_Cl n 103 [.ref (ps_c0 r0 5), .ref r2, .ref (ps_r s2 r0 6)] s2 (ps_rV (fun s3 =>
          pl_nk (ps_is r1 8) (pl_Cl n 91 [.ref (ps_c0 r1 6)] s3 (ps_rV (fun s4 =>
            pl_nk (ps_is r1 8) (pl_Cl n 93 [.ref (ps_c0 r1 6), .int 4] s4 (ps_rV (fun s5 =>
              pl_At n 49 52 [(0, .ref r0), (1, .ref r1), (2, .ref r2), (3, .int 0)] [] s5 Q))))))))))) ∧
      (v2 ≠ 0 →
        Q (some (.int 3)) s2)))))))) : pl_At (n + 1) 49 0 [(0, .ref r0), (1, .ref r1), (2, .ref r2)] [] s Q :=
  pl_wp_at (stops := [(52, [0, 1, 2, 3])]) (f := 30) h rfl


theorem pl_49_52 {n : Nat} {r0 : Nat} {r1 : Nat} {r2 : Nat} {x3 : Int32} {s : ps_S} {Q : Option Value → ps_S → Prop} (h :
  pl_nk (ps_is r2 5) (((ps_i s r2 1) ≤ x3 →
    Q (some (.int 0)) s) ∧
  (x3 < (ps_i s r2 1) →
    pl_nk (ps_is r1 8) (pl_Cl n 92 [.ref r2, .int x3] s (ps_rI (fun v1 s1 =>
      pl_nk (ps_is r1 8) ((v1 ≠ (ps_i s1 r1 3) →
        pl_Cl n 92 [.ref r2, .int x3] s1 (ps_rI (fun v2 s2 =>
          pl_Cl n 93 [.ref (ps_c0 r1 6), .int v2] s2 (ps_rV (fun s3 =>
            pl_At n 49 52 [(0, .ref r0), (1, .ref r1), (2, .ref r2), (3, .int (x3 + 1))] [] s3 Q))))) ∧
      (v1 = (ps_i s1 r1 3) →
        pl_nk (ps_is r0 2) (pl_Cl n 105 [.ref (ps_c0 r0 5), .int x3] s1 (ps_rI (fun v4 s4 =>
          pl_Cl n 93 [.ref (ps_c0 r1 6), .int ((40 : Int32) + v4)] s4 (ps_rV (fun s5 =>
            pl_At n 49 52 [(0, .ref r0), (1, .ref r1), (2, .ref r2), (3, .int (x3 + 1))] [] s5 Q))))))))))))) : pl_At (n + 1) 49 52 [(0, .ref r0), (1, .ref r1), (2, .ref r2), (3, .int x3)] [] s Q :=
  pl_wp_at (stops := [(52, [0, 1, 2, 3])]) (f := 32) h rfl


-- ProofBench$Proof.isExchanged(LProofBench$Row;LProofBench$Row;LProofBench$Row;)Z
theorem pl_56_0 {n : Nat} {r0 : Nat} {r1 : Nat} {r2 : Nat} {r3 : Nat} {s : ps_S} {Q : Option Value → ps_S → Prop} (h :
  pl_nk (ps_is r0 2) (pl_nk (ps_is r0 2) (pl_Cl n 103 [.ref (ps_c0 r0 5), .ref r2, .ref (ps_r s r0 6)] s (ps_rV (fun s1 =>
    pl_nk (ps_is r0 2) (pl_Cl n 104 [.ref (ps_c0 r0 5), .int 1] s1 (ps_rI (fun v2 s2 =>
      pl_nk (ps_is r2 5) (pl_At n 56 46 [(1, .ref r1), (2, .ref r2), (3, .ref r3), (4, .int v2), (5, .int (v2 - 1)), (6, .int ((ps_i s2 r2 1) - v2)), (7, .int 0), (8, .int 0), (9, .int 0)] [] s2 Q))))))))) : pl_At (n + 1) 56 0 [(0, .ref r0), (1, .ref r1), (2, .ref r2), (3, .ref r3)] [] s Q :=
  pl_wp_at (stops := [(46, [1, 2, 3, 4, 5, 6, 7, 8, 9]), (117, [1, 2, 3, 4, 5, 6, 7, 8, 9]), (149, [1, 3, 7, 8])]) (f := 28) h rfl

