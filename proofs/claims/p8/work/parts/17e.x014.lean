set_option maxRecDepth 100000
theorem pg_76_59 {d : Nat} {r0 : Nat} {x1 : Int32} {x2 : Int32} {s : ps_S} {Q : Option Value → ps_S → Prop} (h :
  (x2 ≠ (-1) →
    (((20 : Int32) + x2) ≠ (-1) →
      ps_nk (ps_is r0 3) (ps_nk (ps_is (ps_r s r0 6) 5) (ps_Cl d 93 [.ref (ps_r s r0 6), .int ((20 : Int32) + x2)] s (ps_rV (fun s1 =>
        ps_nk (ps_is r0 3) (ps_nk (ps_is (ps_c0 r0 0) 10) (ps_Cl d 140 [.ref (ps_c0 r0 0)] s1 (ps_rV (fun s2 =>
          ps_nk (ps_is r0 3) (ps_Cl d 71 [.ref r0, .int ((20 : Int32) + x2), .int (x1 + 1)] s2 (ps_rI (fun v3 s3 =>
            ps_nd (decide (v3 &&& 1 = v3)) (Q (some (.int v3)) s3))))))))))))) ∧
    (((20 : Int32) + x2) = (-1) →
      ps_nk (ps_is r0 3) (((ps_i s r0 8) = 0 →
        ps_nk (ps_is r0 3) (ps_Cl d 62 [.ref r0, .int 2] s (ps_rI (fun v4 s4 =>
          ps_nd (decide (v4 &&& 1 = v4)) (Q (some (.int v4)) s4))))) ∧
      ((ps_i s r0 8) ≠ 0 →
        ps_nk (ps_is r0 3) (ps_Cl d 62 [.ref r0, .int 5] s (ps_rI (fun v5 s5 =>
          ps_nd (decide (v5 &&& 1 = v5)) (Q (some (.int v5)) s5)))))))) ∧
  (x2 = (-1) →
    ps_nk (ps_is r0 3) (ps_Cl d 78 [.ref r0] s (ps_rI (fun v6 s6 =>
      (v6 ≠ (-1) →
        ps_nk (ps_is r0 3) (ps_nk (ps_is (ps_r s6 r0 6) 5) (ps_Cl d 93 [.ref (ps_r s6 r0 6), .int v6] s6 (ps_rV (fun s7 =>
          ps_nk (ps_is r0 3) (ps_nk (ps_is (ps_c0 r0 0) 10) (ps_Cl d 140 [.ref (ps_c0 r0 0)] s7 (ps_rV (fun s8 =>
            ps_nk (ps_is r0 3) (ps_Cl d 71 [.ref r0, .int v6, .int (x1 + 1)] s8 (ps_rI (fun v9 s9 =>
              ps_nd (decide (v9 &&& 1 = v9)) (Q (some (.int v9)) s9))))))))))))) ∧
      (v6 = (-1) →
        ps_nk (ps_is r0 3) (((ps_i s6 r0 8) = 0 →
          ps_nk (ps_is r0 3) (ps_Cl d 62 [.ref r0, .int 2] s6 (ps_rI (fun v10 s10 =>
            ps_nd (decide (v10 &&& 1 = v10)) (Q (some (.int v10)) s10))))) ∧
        ((ps_i s6 r0 8) ≠ 0 →
          ps_nk (ps_is r0 3) (ps_Cl d 62 [.ref r0, .int 5] s6 (ps_rI (fun v11 s11 =>
            ps_nd (decide (v11 &&& 1 = v11)) (Q (some (.int v11)) s11)))))))))))) : ps_At (d + 1) 76 59 [(0, .ref r0), (1, .int x1), (2, .int x2)] [] s Q :=
  ps_wp_at (stops := [(20, [0]), (59, [0, 1, 2])]) (n := 69) h rfl

