set_option maxRecDepth 100000
-- ProofBench$Proof.fromFalse(LProofBench$Step;LProofBench$Row;)I
theorem pg_48_0 {d : Nat} {r0 : Nat} {r1 : Nat} {r2 : Nat} {s : ps_S} {Q : Option Value → ps_S → Prop} (h :
  ps_nk (ps_is r2 5) (ps_Cl d 92 [.ref r2, .int 0] s (ps_rI (fun v1 s1 =>
    (v1 = 0 →
      ps_nk (ps_is r1 8) (ps_nk (ps_is r1 8) (ps_nk (ps_is (ps_c0 r1 6) 5) (ps_Cl d 95 [.ref (ps_c0 r1 6), .ref (ps_c0 r1 5)] s1 (ps_rV (fun s2 =>
        ps_nk (ps_is r1 8) (((ps_i s2 r1 0) ≠ 27 →
          Q (some (.int 0)) s2) ∧
        ((ps_i s2 r1 0) = 27 →
          ps_nk (ps_is r0 2) (ps_Cl d 38 [.ref r0, .int 0] s2 (ps_rA (fun v3 s3 =>
            ps_nk (ps_is v3 5) (ps_Cl d 91 [.ref v3] s3 (ps_rV (fun s4 =>
              ps_nk (ps_is r0 2) (ps_Cl d 38 [.ref r0, .int 0] s4 (ps_rA (fun v5 s5 =>
                ps_nk (ps_is v5 5) (ps_Cl d 93 [.ref v5, .int 3] s5 (ps_rV (fun s6 =>
                  ps_nk (ps_is r0 2) (ps_Cl d 38 [.ref r0, .int 0] s6 (ps_rA (fun v7 s7 =>
                    ps_nk (ps_is r1 8) (ps_nk (ps_is r1 8) (ps_nk (ps_is (ps_c0 r1 5) 5) (ps_nk (ps_is v7 5) (ps_Cl d 94 [.ref v7, .ref (ps_c0 r1 5), .int 0, .int (ps_i s7 (ps_c0 r1 5) 1)] s7 (ps_rV (fun s8 =>
                      ps_nk (ps_is r0 2) (ps_Cl d 38 [.ref r0, .int 0] s8 (ps_rA (fun v9 s9 =>
                        ps_nk (ps_is v9 5) (ps_Cl d 93 [.ref v9, .int 0] s9 (ps_rV (fun s10 =>
                          Q (some (.int 0)) s10))))))))))))))))))))))))))))))))))) ∧
    (v1 ≠ 0 →
      Q (some (.int 2)) s1))))) : ps_At (d + 1) 48 0 [(0, .ref r0), (1, .ref r1), (2, .ref r2)] [] s Q :=
  ps_wp_at (stops := []) (n := 45) h rfl

