set_option maxRecDepth 100000
-- ProofBench$Proof.openSome(LProofBench$Step;LProofBench$Row;LProofBench$Step;)I
theorem pl_54_0 {n : Nat} {r0 : Nat} {r1 : Nat} {r2 : Nat} {r3 : Nat} {s : ps_S} {Q : Option Value → ps_S → Prop} (h :
  pl_Cl n 92 [.ref r2, .int 0] s (ps_rI (fun v1 s1 =>
    (v1 = 5 →
      pl_nk (ps_is r1 8) (pl_Cl n 91 [.ref (ps_c0 r1 4)] s1 (ps_rV (fun s2 =>
        pl_nk (ps_is r1 8) (pl_nk (ps_is r1 8) (pl_Cl n 93 [.ref (ps_c0 r1 4), .int (ps_i s2 r1 3)] s2 (ps_rV (fun s3 =>
          pl_Cl n 38 [.ref r0, .int 1] s3 (ps_rA (fun v4 s4 =>
            pl_nk (ps_is r1 8) (pl_Cl n 52 [.ref r0, .ref v4, .ref r2, .ref (ps_c0 r1 4)] s4 (ps_rV (fun s5 =>
              pl_nk (ps_is r1 8) (pl_Cl n 100 [.ref r2, .int (ps_i s5 r1 3)] s5 (ps_rI (fun v6 s6 =>
                (v6 ≠ 0 →
                  pl_At n 54 68 [(0, .ref r0), (1, .ref r1), (3, .ref r3)] [] s6 Q) ∧
                (v6 = 0 →
                  pl_nk (ps_is r3 8) (pl_nk (ps_is r1 8) (pl_Cl n 100 [.ref (ps_c0 r3 6), .int (ps_i s6 r1 3)] s6 (ps_rI (fun v7 s7 =>
                    (v7 = 0 →
                      ((0 : Int32) ≠ 0 →
                        Q (some (.int 3)) s7) ∧
                      ((0 : Int32) = 0 →
                        pl_nk (ps_is r1 8) (pl_Cl n 38 [.ref r0, .int 1] s7 (ps_rA (fun v8 s8 =>
                          pl_Cl n 51 [.ref r0, .ref r3, .int (ps_i s7 r1 3), .ref v8] s8 (ps_rI (fun v9 s9 =>
                            (v9 = 0 →
                              pl_nk (ps_is r1 8) (pl_nk (ps_is r3 8) (pl_Cl n 95 [.ref (ps_c0 r1 6), .ref (ps_c0 r3 6)] s9 (ps_rV (fun s10 =>
                                Q (some (.int 0)) s10))))) ∧
                            (v9 ≠ 0 →
                              Q (some (.int 3)) s9)))))))) ∧
                    (v7 ≠ 0 →
                      pl_At n 54 68 [(0, .ref r0), (1, .ref r1), (3, .ref r3)] [] s7 Q)))))))))))))))))))))) ∧
    (v1 ≠ 5 →
      Q (some (.int 2)) s1)))) : pl_At (n + 1) 54 0 [(0, .ref r0), (1, .ref r1), (2, .ref r2), (3, .ref r3)] [] s Q :=
  pl_wp_at (stops := [(68, [0, 1, 3])]) (f := 60) h rfl

