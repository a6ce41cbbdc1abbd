set_option maxRecDepth 100000
-- ProofBench$Proof.apply(LProofBench$Step;LProofBench$Row;LProofBench$Row;)I
theorem pl_47_0 {n : Nat} {r0 : Nat} {r1 : Nat} {r2 : Nat} {r3 : Nat} {s : ps_S} {Q : Option Value → ps_S → Prop} (h :
  pl_nk (ps_is r0 2) (pl_nk (ps_is r0 2) (pl_Cl n 103 [.ref (ps_c0 r0 5), .ref r2, .ref (ps_r s r0 6)] s (ps_rV (fun s1 =>
    pl_nk (ps_is r0 2) (pl_Cl n 104 [.ref (ps_c0 r0 5), .int 1] s1 (ps_rI (fun v2 s2 =>
      pl_Cl n 92 [.ref r2, .int 0] s2 (ps_rI (fun v3 s3 =>
        (v3 ≠ 3 →
          Q (some (.int 2)) s3) ∧
        (v3 = 3 →
          pl_nk (ps_is r3 5) (((v2 - 1) ≠ (ps_i s3 r3 1) →
            Q (some (.int 2)) s3) ∧
          ((v2 - 1) = (ps_i s3 r3 1) →
            pl_Cl n 99 [.ref r2, .int 1, .int v2, .ref r3, .int 0] s3 (ps_rI (fun v4 s4 =>
              (v4 ≠ 0 →
                pl_nk (ps_is r1 8) (pl_nk (ps_is r2 5) (pl_Cl n 96 [.ref (ps_c0 r1 6), .ref r2, .int v2, .int (ps_i s4 r2 1)] s4 (ps_rV (fun s5 =>
                  Q (some (.int 0)) s5))))) ∧
              (v4 = 0 →
                Q (some (.int 2)) s4)))))))))))))))) : pl_At (n + 1) 47 0 [(0, .ref r0), (1, .ref r1), (2, .ref r2), (3, .ref r3)] [] s Q :=
  pl_wp_at (stops := []) (f := 46) h rfl


-- ProofBench$Proof.fromFalse(LProofBench$Step;LProofBench$Row;)I
theorem pl_48_0 {n : Nat} {r0 : Nat} {r1 : Nat} {r2 : Nat} {s : ps_S} {Q : Option Value → ps_S → Prop} (h :
  pl_Cl n 92 [.ref r2, .int 0] s (ps_rI (fun v1 s1 =>
    (v1 = 0 →
      pl_nk (ps_is r1 8) (pl_nk (ps_is r1 8) (pl_Cl n 95 [.ref (ps_c0 r1 6), .ref (ps_c0 r1 5)] s1 (ps_rV (fun s2 =>
        pl_nk (ps_is r1 8) (((ps_i s2 r1 0) ≠ 27 →
          Q (some (.int 0)) s2) ∧
        ((ps_i s2 r1 0) = 27 →
          pl_Cl n 38 [.ref r0, .int 0] s2 (ps_rA (fun v3 s3 =>
            pl_Cl n 91 [.ref v3] s3 (ps_rV (fun s4 =>
              pl_Cl n 38 [.ref r0, .int 0] s4 (ps_rA (fun v5 s5 =>
                pl_Cl n 93 [.ref v5, .int 3] s5 (ps_rV (fun s6 =>
                  pl_Cl n 38 [.ref r0, .int 0] s6 (ps_rA (fun v7 s7 =>
                    pl_nk (ps_is r1 8) (pl_nk (ps_is r1 8) (pl_nk (ps_is (ps_c0 r1 5) 5) (pl_Cl n 94 [.ref v7, .ref (ps_c0 r1 5), .int 0, .int (ps_i s7 (ps_c0 r1 5) 1)] s7 (ps_rV (fun s8 =>
                      pl_Cl n 38 [.ref r0, .int 0] s8 (ps_rA (fun v9 s9 =>
                        pl_Cl n 93 [.ref v9, .int 0] s9 (ps_rV (fun s10 =>
                          Q (some (.int 0)) s10)))))))))))))))))))))))))) ∧
    (v1 ≠ 0 →
      Q (some (.int 2)) s1)))) : pl_At (n + 1) 48 0 [(0, .ref r0), (1, .ref r1), (2, .ref r2)] [] s Q :=
  pl_wp_at (stops := []) (f := 45) h rfl


-- ProofBench$Proof.specialise(LProofBench$Step;LProofBench$Row;)I
theorem pl_50_0 {n : Nat} {r0 : Nat} {r1 : Nat} {r2 : Nat} {s : ps_S} {Q : Option Value → ps_S → Prop} (h :
  pl_Cl n 92 [.ref r2, .int 0] s (ps_rI (fun v1 s1 =>
    (v1 = 4 →
      pl_nk (ps_is r1 8) (pl_nk (ps_is r1 8) (pl_Cl n 52 [.ref r0, .ref (ps_c0 r1 6), .ref r2, .ref (ps_c0 r1 4)] s1 (ps_rV (fun s2 =>
        Q (some (.int 0)) s2))))) ∧
    (v1 ≠ 4 →
      Q (some (.int 2)) s1)))) : pl_At (n + 1) 50 0 [(0, .ref r0), (1, .ref r1), (2, .ref r2)] [] s Q :=
  pl_wp_at (stops := []) (f := 18) h rfl


-- ProofBench$Proof.makeSome(LProofBench$Step;LProofBench$Row;)I
theorem pl_53_0 {n : Nat} {r0 : Nat} {r1 : Nat} {r2 : Nat} {s : ps_S} {Q : Option Value → ps_S → Prop} (h :
  pl_nk (ps_is r1 8) (pl_Cl n 92 [.ref (ps_c0 r1 5), .int 0] s (ps_rI (fun v1 s1 =>
    (v1 = 5 →
      pl_nk (ps_is r0 2) (pl_nk (ps_is r1 8) (pl_nk (ps_is r1 8) (pl_Cl n 52 [.ref r0, .ref (ps_c0 r0 4), .ref (ps_c0 r1 5), .ref (ps_c0 r1 4)] s1 (ps_rV (fun s2 =>
        pl_nk (ps_is r0 2) (pl_Cl n 98 [.ref (ps_c0 r0 4), .ref r2] s2 (ps_rI (fun v3 s3 =>
          (v3 ≠ 0 →
            pl_nk (ps_is r1 8) (pl_nk (ps_is r1 8) (pl_Cl n 95 [.ref (ps_c0 r1 6), .ref (ps_c0 r1 5)] s3 (ps_rV (fun s4 =>
              Q (some (.int 0)) s4))))) ∧
          (v3 = 0 →
            Q (some (.int 4)) s3)))))))))) ∧
    (v1 ≠ 5 →
      Q (some (.int 4)) s1))))) : pl_At (n + 1) 53 0 [(0, .ref r0), (1, .ref r1), (2, .ref r2)] [] s Q :=
  pl_wp_at (stops := []) (f := 32) h rfl

