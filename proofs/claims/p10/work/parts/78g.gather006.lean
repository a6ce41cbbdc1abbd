set_option maxRecDepth 100000
-- ProofBench$Proof.joinParts(LProofBench$Step;LProofBench$Row;)I
theorem pl_44_0 {n : Nat} {r0 : Nat} {r1 : Nat} {r2 : Nat} {s : ps_S} {Q : Option Value → ps_S → Prop} (h :
  pl_nk (ps_is r1 8) (((ps_i s r1 0) = 13 →
    pl_nk (ps_is r1 8) (pl_Cl n 37 [.ref r0, .ref r1, .int 1] s (ps_rA (fun v1 s1 =>
      pl_nk (ps_is v1 8) (pl_Cl n 97 [.ref (ps_c0 r1 6), .int 1, .ref r2, .ref (ps_c0 v1 6)] s1 (ps_rV (fun s2 =>
        Q (some (.int 0)) s2))))))) ∧
  ((ps_i s r1 0) ≠ 13 →
    ((ps_i s r1 0) = 14 →
    pl_nk (ps_is r1 8) (pl_nk (ps_is r1 8) (pl_Cl n 97 [.ref (ps_c0 r1 6), .int 3, .ref (ps_c0 r1 5), .ref r2] s (ps_rV (fun s3 =>
      pl_Cl n 38 [.ref r0, .int 0] s3 (ps_rA (fun v4 s4 =>
        pl_nk (ps_is r1 8) (pl_Cl n 95 [.ref v4, .ref (ps_c0 r1 5)] s4 (ps_rV (fun s5 =>
          Q (some (.int 0)) s5)))))))))) ∧
  ((ps_i s r1 0) ≠ 14 →
    ((ps_i s r1 0) = 15 →
    pl_nk (ps_is r1 8) (pl_nk (ps_is r1 8) (pl_Cl n 97 [.ref (ps_c0 r1 6), .int 3, .ref (ps_c0 r1 5), .ref r2] s (ps_rV (fun s6 =>
      pl_Cl n 38 [.ref r0, .int 0] s6 (ps_rA (fun v7 s7 =>
        pl_nk (ps_is r1 8) (pl_Cl n 95 [.ref v7, .ref (ps_c0 r1 5)] s7 (ps_rV (fun s8 =>
          Q (some (.int 0)) s8)))))))))) ∧
  ((ps_i s r1 0) ≠ 15 →
    ((ps_i s r1 0) = 16 →
    pl_nk (ps_is r1 8) (pl_nk (ps_is r1 8) (pl_Cl n 97 [.ref (ps_c0 r1 6), .int 2, .ref r2, .ref (ps_c0 r1 5)] s (ps_rV (fun s9 =>
      Q (some (.int 0)) s9))))) ∧
  ((ps_i s r1 0) ≠ 16 →
    ((ps_i s r1 0) = 17 →
    pl_nk (ps_is r1 8) (pl_nk (ps_is r1 8) (pl_Cl n 97 [.ref (ps_c0 r1 6), .int 2, .ref (ps_c0 r1 5), .ref r2] s (ps_rV (fun s10 =>
      Q (some (.int 0)) s10))))) ∧
  ((ps_i s r1 0) ≠ 17 →
    pl_nk (ps_is r1 8) (pl_nk (ps_is r1 8) (pl_Cl n 97 [.ref (ps_c0 r1 6), .int 3, .ref (ps_c0 r1 5), .ref r2] s (ps_rV (fun s11 =>
    pl_Cl n 38 [.ref r0, .int 0] s11 (ps_rA (fun v12 s12 =>
      pl_nk (ps_is r1 8) (pl_Cl n 95 [.ref v12, .ref (ps_c0 r1 5)] s12 (ps_rV (fun s13 =>
        Q (some (.int 0)) s13)))))))))))))))) : pl_At (n + 1) 44 0 [(0, .ref r0), (1, .ref r1), (2, .ref r2)] [] s Q :=
  pl_wp_at (stops := []) (f := 83) h rfl

