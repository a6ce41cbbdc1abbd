set_option maxRecDepth 100000
-- ProofBench$Proof.takeCases(LProofBench$Step;LProofBench$Row;)I
theorem pl_46_0 {n : Nat} {r0 : Nat} {r1 : Nat} {r2 : Nat} {s : ps_S} {Q : Option Value → ps_S → Prop} (h :
  pl_Cl n 37 [.ref r0, .ref r1, .int 1] s (ps_rA (fun v1 s1 =>
    pl_nk (ps_is v1 8) (pl_Cl n 92 [.ref r2, .int 0] s1 (ps_rI (fun v2 s2 =>
      (v2 ≠ 2 →
        Q (some (.int 2)) s2) ∧
      (v2 = 2 →
        pl_Cl n 37 [.ref r0, .ref r1, .int 2] s2 (ps_rA (fun v3 s3 =>
          pl_nk (ps_is v3 8) (pl_Cl n 98 [.ref (ps_c0 v1 6), .ref (ps_c0 v3 6)] s3 (ps_rI (fun v4 s4 =>
            (v4 ≠ 0 →
              pl_nk (ps_is r0 2) (pl_nk (ps_is r0 2) (pl_Cl n 103 [.ref (ps_c0 r0 5), .ref r2, .ref (ps_r s4 r0 6)] s4 (ps_rV (fun s5 =>
                pl_nk (ps_is r0 2) (pl_Cl n 104 [.ref (ps_c0 r0 5), .int 1] s5 (ps_rI (fun v6 s6 =>
                  pl_Cl n 38 [.ref r0, .int 1] s6 (ps_rA (fun v7 s7 =>
                    pl_Cl n 96 [.ref v7, .ref r2, .int 1, .int v6] s7 (ps_rV (fun s8 =>
                      pl_Cl n 38 [.ref r0, .int 2] s8 (ps_rA (fun v9 s9 =>
                        pl_nk (ps_is r2 5) (pl_Cl n 96 [.ref v9, .ref r2, .int v6, .int (ps_i s9 r2 1)] s9 (ps_rV (fun s10 =>
                          pl_nk (ps_is r1 8) (pl_Cl n 95 [.ref (ps_c0 r1 6), .ref (ps_c0 v1 6)] s10 (ps_rV (fun s11 =>
                            Q (some (.int 0)) s11)))))))))))))))))))) ∧
            (v4 = 0 →
              Q (some (.int 2)) s4))))))))))))) : pl_At (n + 1) 46 0 [(0, .ref r0), (1, .ref r1), (2, .ref r2)] [] s Q :=
  pl_wp_at (stops := []) (f := 57) h rfl

