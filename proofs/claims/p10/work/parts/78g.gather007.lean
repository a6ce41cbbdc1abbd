set_option maxRecDepth 100000
-- ProofBench$Proof.takeHalf(LProofBench$Step;LProofBench$Row;)I
theorem pl_45_0 {n : Nat} {r0 : Nat} {r1 : Nat} {r2 : Nat} {s : ps_S} {Q : Option Value → ps_S → Prop} (h :
  pl_Cl n 92 [.ref r2, .int 0] s (ps_rI (fun v1 s1 =>
    (v1 = 1 →
      pl_nk (ps_is r0 2) (pl_nk (ps_is r0 2) (pl_Cl n 103 [.ref (ps_c0 r0 5), .ref r2, .ref (ps_r s1 r0 6)] s1 (ps_rV (fun s2 =>
        pl_nk (ps_is r0 2) (pl_Cl n 104 [.ref (ps_c0 r0 5), .int 1] s2 (ps_rI (fun v3 s3 =>
          pl_nk (ps_is r1 8) (((ps_i s3 r1 0) ≠ 14 →
            pl_nk (ps_is r1 8) (pl_nk (ps_is r2 5) (pl_Cl n 96 [.ref (ps_c0 r1 6), .ref r2, .int v3, .int (ps_i s3 r2 1)] s3 (ps_rV (fun s4 =>
              Q (some (.int 0)) s4))))) ∧
          ((ps_i s3 r1 0) = 14 →
            pl_nk (ps_is r1 8) (pl_Cl n 96 [.ref (ps_c0 r1 6), .ref r2, .int 1, .int v3] s3 (ps_rV (fun s5 =>
              Q (some (.int 0)) s5))))))))))))) ∧
    (v1 ≠ 1 →
      Q (some (.int 2)) s1)))) : pl_At (n + 1) 45 0 [(0, .ref r0), (1, .ref r1), (2, .ref r2)] [] s Q :=
  pl_wp_at (stops := []) (f := 42) h rfl

