set_option maxRecDepth 100000
theorem pg_63_0 {d : Nat} {r0 : Nat} {x1 : Int32} {s : ps_S} {Q : Option Value → ps_S → Prop} (h :
  ps_nk (ps_is r0 3) (ps_nk (ps_is (ps_c0 r0 0) 10) (((ps_i s (ps_c0 r0 0) 4) = 2 →
    ps_nk (ps_is r0 3) (ps_nk (ps_is (ps_c0 r0 0) 10) (ps_nk (ps_is r0 3) (ps_nk (ps_is (ps_r s r0 5) 9) (ps_Cl d 130 [.ref (ps_r s r0 5), .long (ps_j s (ps_c0 r0 0) 8)] s (ps_rI (fun v1 s1 =>
      (v1 = 0 →
        ps_nk (ps_is r0 3) (ps_nk (ps_is (ps_c0 r0 0) 10) (ps_Cl d 140 [.ref (ps_c0 r0 0)] s1 (ps_rV (fun s2 =>
          ps_nk (ps_is r0 3) (ps_nk (ps_is (ps_c0 r0 0) 10) (((ps_i s2 (ps_c0 r0 0) 4) = 4 →
            ps_nk (ps_is r0 3) (ps_nk (ps_is (ps_c0 r0 0) 10) (((ps_i s2 (ps_c0 r0 0) 7) ≤ 2 →
              ps_nk (ps_is r0 3) (ps_nk (ps_is (ps_c0 r0 0) 10) (ps_Cl d 140 [.ref (ps_c0 r0 0)] s2 (ps_rV (fun s3 =>
                ps_nk (ps_is r0 3) (ps_Cl d 65 [.ref r0] s3 (ps_rI (fun v4 s4 =>
                  (v4 ≠ 0 →
                    ps_nk (ps_is r0 3) (ps_nk (ps_is (ps_r s4 r0 5) 9) (ps_Cl d 133 [.ref (ps_r s4 r0 5), .int x1, .long (ps_j s (ps_c0 r0 0) 8), .int (ps_i s2 (ps_c0 r0 0) 7)] s4 (ps_rV (fun s5 =>
                      Q (some (.int 1)) s5))))) ∧
                  (v4 = 0 →
                    Q (some (.int 0)) s4))))))))) ∧
            (2 < (ps_i s2 (ps_c0 r0 0) 7) →
              ps_nk (ps_is r0 3) (ps_Cl d 62 [.ref r0, .int 4] s2 (ps_rI (fun v6 s6 =>
                ps_nd (decide (v6 &&& 1 = v6)) (Q (some (.int v6)) s6)))))))) ∧
          ((ps_i s2 (ps_c0 r0 0) 4) ≠ 4 →
            ps_nk (ps_is r0 3) (ps_Cl d 62 [.ref r0, .int 2] s2 (ps_rI (fun v7 s7 =>
              ps_nd (decide (v7 &&& 1 = v7)) (Q (some (.int v7)) s7)))))))))))) ∧
      (v1 ≠ 0 →
        ps_nk (ps_is r0 3) (ps_Cl d 62 [.ref r0, .int 3] s1 (ps_rI (fun v8 s8 =>
          ps_nd (decide (v8 &&& 1 = v8)) (Q (some (.int v8)) s8)))))))))))) ∧
  ((ps_i s (ps_c0 r0 0) 4) ≠ 2 →
    ps_nk (ps_is r0 3) (ps_Cl d 62 [.ref r0, .int 2] s (ps_rI (fun v9 s9 =>
      ps_nd (decide (v9 &&& 1 = v9)) (Q (some (.int v9)) s9)))))))) : ps_At (d + 1) 63 0 [(0, .ref r0), (1, .int x1)] [] s Q :=
  ps_wp_at (stops := []) (n := 63) h rfl

