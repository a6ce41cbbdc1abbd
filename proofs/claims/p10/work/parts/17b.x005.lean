set_option maxRecDepth 100000
-- ProofBench$Judge.isSo(III)Z
theorem pg_15_0 {d : Nat} {r0 : Nat} {x1 : Int32} {x2 : Int32} {x3 : Int32} {s : ps_S} {Q : Option Value → ps_S → Prop} (h :
  (x3 ≤ 12 →
    ps_nk (ps_is r0 0) (ps_nk (ps_is (ps_r s r0 14) 5) (ps_Cl d 92 [.ref (ps_r s r0 14), .int x1] s (ps_rI (fun v1 s1 =>
      (v1 = 0 →
        Q (some (.int 0)) s1) ∧
      (v1 ≠ 0 →
        (v1 = 1 →
        ps_nk (ps_is r0 0) (ps_Cl d 16 [.ref r0, .int x1, .int x2, .int (x3 + 1)] s1 (ps_rI (fun v2 s2 =>
          ps_nd (decide (v2 &&& 1 = v2)) (Q (some (.int v2)) s2))))) ∧
      (v1 ≠ 1 →
        (v1 = 2 →
        ps_nk (ps_is r0 0) (ps_Cl d 16 [.ref r0, .int x1, .int x2, .int (x3 + 1)] s1 (ps_rI (fun v3 s3 =>
          ps_nd (decide (v3 &&& 1 = v3)) (Q (some (.int v3)) s3))))) ∧
      (v1 ≠ 2 →
        (v1 = 3 →
        ps_nk (ps_is r0 0) (ps_Cl d 16 [.ref r0, .int x1, .int x2, .int (x3 + 1)] s1 (ps_rI (fun v4 s4 =>
          ps_nd (decide (v4 &&& 1 = v4)) (Q (some (.int v4)) s4))))) ∧
      (v1 ≠ 3 →
        (v1 = 4 →
        ps_nk (ps_is r0 0) (ps_Cl d 17 [.ref r0, .int x1, .int x2, .int x3] s1 (ps_rI (fun v5 s5 =>
          ps_nd (decide (v5 &&& 1 = v5)) (Q (some (.int v5)) s5))))) ∧
      (v1 ≠ 4 →
        (v1 = 5 →
        ps_nk (ps_is r0 0) (ps_Cl d 17 [.ref r0, .int x1, .int x2, .int x3] s1 (ps_rI (fun v6 s6 =>
          ps_nd (decide (v6 &&& 1 = v6)) (Q (some (.int v6)) s6))))) ∧
      (v1 ≠ 5 →
        (v1 = 6 →
        ps_nk (ps_is r0 0) (ps_Cl d 18 [.ref r0, .int (x1 + 1), .int x2, .int (x3 + 1)] s1 (ps_rI (fun v7 s7 =>
          ps_nk (ps_is r0 0) (ps_nk (ps_is (ps_r s7 r0 15) 6) (ps_Cl d 104 [.ref (ps_r s7 r0 15), .int (x1 + 1)] s7 (ps_rI (fun v8 s8 =>
            ps_nk (ps_is r0 0) (ps_Cl d 18 [.ref r0, .int v8, .int x2, .int (x3 + 1)] s8 (ps_rI (fun v9 s9 =>
              (v7 ≠ v9 →
                Q (some (.int 0)) s9) ∧
              (v7 = v9 →
                Q (some (.int 1)) s9)))))))))))) ∧
      (v1 ≠ 6 →
        ps_nk (ps_is r0 0) (ps_nk (ps_is r0 0) (ps_Cl d 182 [.ref (ps_c0 r0 3), .int (v1 - 10)] s1 (ps_rI (fun v10 s10 =>
        ps_nk (ps_is r0 0) (ps_Cl d 19 [.ref r0, .int x1, .int x2, .int x3] s10 (ps_rI (fun v11 s11 =>
          ps_Cl d 182 [.ref (ps_c0 r0 1), .int (v10 + v11)] s11 (ps_rI (fun v12 s12 =>
            (v12 ≠ 1 →
              Q (some (.int 0)) s12) ∧
            (v12 = 1 →
              Q (some (.int 1)) s12)))))))))))))))))))))) ∧
  (12 < x3 →
    Q (some (.int 0)) s)) : ps_At (d + 1) 15 0 [(0, .ref r0), (1, .int x1), (2, .int x2), (3, .int x3)] [] s Q :=
  ps_wp_at (stops := []) (n := 101) h rfl

