set_option maxRecDepth 100000
-- ProofBench$Judge.isSoOfTwo(III)Z
theorem pg_16_0 {d : Nat} {r0 : Nat} {x1 : Int32} {x2 : Int32} {x3 : Int32} {s : ps_S} {Q : Option Value → ps_S → Prop} (h :
  ps_nk (ps_is r0 0) (ps_Cl d 15 [.ref r0, .int (x1 + 1), .int x2, .int x3] s (ps_rI (fun v1 s1 =>
    ps_nk (ps_is r0 0) (ps_nk (ps_is (ps_r s1 r0 14) 5) (ps_Cl d 92 [.ref (ps_r s1 r0 14), .int x1] s1 (ps_rI (fun v2 s2 =>
      (v2 = 1 →
        (v1 = 0 →
          Q (some (.int 0)) s2) ∧
        (v1 ≠ 0 →
          ps_nk (ps_is r0 0) (ps_nk (ps_is (ps_r s2 r0 15) 6) (ps_Cl d 104 [.ref (ps_r s2 r0 15), .int (x1 + 1)] s2 (ps_rI (fun v3 s3 =>
            ps_nk (ps_is r0 0) (ps_Cl d 15 [.ref r0, .int v3, .int x2, .int x3] s3 (ps_rI (fun v4 s4 =>
              (v4 = 0 →
                Q (some (.int 0)) s4) ∧
              (v4 ≠ 0 →
                Q (some (.int 1)) s4)))))))))) ∧
      (v2 ≠ 1 →
        (v2 = 2 →
        (v1 ≠ 0 →
          Q (some (.int 1)) s2) ∧
        (v1 = 0 →
          ps_nk (ps_is r0 0) (ps_nk (ps_is (ps_r s2 r0 15) 6) (ps_Cl d 104 [.ref (ps_r s2 r0 15), .int (x1 + 1)] s2 (ps_rI (fun v5 s5 =>
            ps_nk (ps_is r0 0) (ps_Cl d 15 [.ref r0, .int v5, .int x2, .int x3] s5 (ps_rI (fun v6 s6 =>
              (v6 = 0 →
                Q (some (.int 0)) s6) ∧
              (v6 ≠ 0 →
                Q (some (.int 1)) s6)))))))))) ∧
      (v2 ≠ 2 →
        (v1 = 0 →
        Q (some (.int 1)) s2) ∧
      (v1 ≠ 0 →
        ps_nk (ps_is r0 0) (ps_nk (ps_is (ps_r s2 r0 15) 6) (ps_Cl d 104 [.ref (ps_r s2 r0 15), .int (x1 + 1)] s2 (ps_rI (fun v7 s7 =>
          ps_nk (ps_is r0 0) (ps_Cl d 15 [.ref r0, .int v7, .int x2, .int x3] s7 (ps_rI (fun v8 s8 =>
            (v8 = 0 →
              Q (some (.int 0)) s8) ∧
            (v8 ≠ 0 →
              Q (some (.int 1)) s8))))))))))))))))))) : ps_At (d + 1) 16 0 [(0, .ref r0), (1, .int x1), (2, .int x2), (3, .int x3)] [] s Q :=
  ps_wp_at (stops := []) (n := 77) h rfl

