set_option maxRecDepth 100000
theorem pg_64_0 {d : Nat} {r0 : Nat} {s : ps_S} {Q : Option Value → ps_S → Prop} (h :
  ps_nk (ps_is r0 3) (ps_nk (ps_is (ps_c0 r0 0) 10) (((ps_i s (ps_c0 r0 0) 4) = 2 →
    ps_nk (ps_is r0 3) (ps_nk (ps_is (ps_c0 r0 0) 10) (ps_nk (ps_is r0 3) (ps_nk (ps_is (ps_r s r0 5) 9) (ps_Cl d 129 [.ref (ps_r s r0 5), .long (ps_j s (ps_c0 r0 0) 8)] s (ps_rI (fun v1 s1 =>
      (v1 = (-1) →
        ps_nk (ps_is r0 3) (ps_nk (ps_is (ps_c0 r0 0) 10) (ps_Cl d 140 [.ref (ps_c0 r0 0)] s1 (ps_rV (fun s2 =>
          ps_nk (ps_is r0 3) (ps_nk (ps_is r0 3) (ps_nk (ps_is r0 3) (ps_nk (ps_is (ps_r (ps_ui s2 r0 8 1) r0 5) 9) (ps_nk (ps_is (ps_r (ps_ui s2 r0 8 1) r0 5) 9) (ps_Cl d 135 [.ref (ps_r (ps_ui s2 r0 8 1) r0 5), .int (ps_i (ps_ui s2 r0 8 1) (ps_r (ps_ui s2 r0 8 1) r0 5) 8)] (ps_ui s2 r0 8 1) (ps_rA (fun v3 s3 =>
            ps_nk (ps_is r0 3) (ps_Cl d 69 [.ref r0, .ref v3, .int 0] s3 (ps_rI (fun v4 s4 =>
              (v4 = 0 →
                Q (some (.int 0)) s4) ∧
              (v4 ≠ 0 →
                ps_nk (ps_is r0 3) (ps_Cl d 65 [.ref r0] s4 (ps_rI (fun v5 s5 =>
                  (v5 ≠ 0 →
                    ps_nk (ps_is r0 3) (ps_nk (ps_is (ps_r s5 r0 5) 9) (ps_Cl d 134 [.ref (ps_r s5 r0 5), .long (ps_j s (ps_c0 r0 0) 8)] s5 (ps_rV (fun s6 =>
                      Q (some (.int 1)) s6))))) ∧
                  (v5 = 0 →
                    Q (some (.int 0)) s5)))))))))))))))))))) ∧
      (v1 ≠ (-1) →
        ps_nk (ps_is r0 3) (ps_Cl d 62 [.ref r0, .int 3] s1 (ps_rI (fun v7 s7 =>
          ps_nd (decide (v7 &&& 1 = v7)) (Q (some (.int v7)) s7)))))))))))) ∧
  ((ps_i s (ps_c0 r0 0) 4) ≠ 2 →
    ps_nk (ps_is r0 3) (ps_Cl d 62 [.ref r0, .int 2] s (ps_rI (fun v8 s8 =>
      ps_nd (decide (v8 &&& 1 = v8)) (Q (some (.int v8)) s8)))))))) : ps_At (d + 1) 64 0 [(0, .ref r0)] [] s Q :=
  ps_wp_at (stops := []) (n := 54) h rfl

