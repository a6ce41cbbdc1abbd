set_option maxRecDepth 100000
theorem pg_70_0 {d : Nat} {r0 : Nat} {x1 : Int32} {s : ps_S} {Q : Option Value → ps_S → Prop} (h :
  ps_nk (ps_is r0 3) (ps_nk (ps_is (ps_c0 r0 0) 10) (((ps_i s (ps_c0 r0 0) 6) ≠ 7 →
    ps_nk (ps_is r0 3) (ps_Cl d 72 [.ref r0] s (ps_rI (fun v1 s1 =>
      ps_Cl d 184 [.int v1] s1 (ps_rI (fun v2 s2 =>
        (v2 = 0 →
          ps_At (d + 1) 70 42 [(0, .ref r0), (1, .int x1), (2, .int v1)] [] s2 Q) ∧
        (v2 ≠ 0 →
          ps_nk (ps_is r0 3) (((ps_i s2 r0 4) < 5 →
            ps_At (d + 1) 70 42 [(0, .ref r0), (1, .int x1), (2, .int v1)] [] s2 Q) ∧
          (5 ≤ (ps_i s2 r0 4) →
            (v1 = (-1) →
              ps_At (d + 1) 70 62 [(0, .ref r0)] [] s2 Q) ∧
            (v1 ≠ (-1) →
              ((1 : Int32) ≠ 0 →
                ps_At (d + 1) 70 62 [(0, .ref r0)] [] s2 Q) ∧
              ((1 : Int32) = 0 →
                ps_nk (ps_is r0 3) (ps_Cl d 73 [.ref r0, .int x1, .int 1] s2 (ps_rI (fun v3 s3 =>
                  (v3 ≠ 0 →
                    ps_nk (ps_is r0 3) (ps_nk (ps_is (ps_r s3 r0 6) 5) (ps_Cl d 93 [.ref (ps_r s3 r0 6), .int v1] s3 (ps_rV (fun s4 =>
                      ps_nk (ps_is r0 3) (ps_nk (ps_is (ps_c0 r0 0) 10) (ps_Cl d 140 [.ref (ps_c0 r0 0)] s4 (ps_rV (fun s5 =>
                        ps_Cl d 184 [.int v1] s5 (ps_rI (fun v6 s6 =>
                          (v6 = 0 →
                            ps_nk (ps_is r0 3) (ps_Cl d 71 [.ref r0, .int v1, .int (x1 + 1)] s6 (ps_rI (fun v7 s7 =>
                              ps_nd (decide (v7 &&& 1 = v7)) (Q (some (.int v7)) s7))))) ∧
                          (v6 ≠ 0 →
                            ps_nk (ps_is r0 3) (ps_Cl d 75 [.ref r0, .int x1] s6 (ps_rI (fun v8 s8 =>
                              ps_nd (decide (v8 &&& 1 = v8)) (Q (some (.int v8)) s8)))))))))))))))) ∧
                  (v3 = 0 →
                    ps_At (d + 1) 70 62 [(0, .ref r0)] [] s3 Q))))))))))))))) ∧
  ((ps_i s (ps_c0 r0 0) 6) = 7 →
    ps_nk (ps_is r0 3) (ps_Cl d 74 [.ref r0, .int x1] s (ps_rI (fun v9 s9 =>
      ps_nd (decide (v9 &&& 1 = v9)) (Q (some (.int v9)) s9)))))))) : ps_At (d + 1) 70 0 [(0, .ref r0), (1, .int x1)] [] s Q :=
  ps_wp_at (stops := [(42, [0, 1, 2]), (62, [0])]) (n := 55) h rfl

