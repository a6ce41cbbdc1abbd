set_option maxRecDepth 100000
theorem pg_76_0 {d : Nat} {r0 : Nat} {x1 : Int32} {s : ps_S} {Q : Option Value → ps_S → Prop} (h :
  ps_nk (ps_is r0 3) (ps_nk (ps_is (ps_c0 r0 0) 10) (((ps_i s (ps_c0 r0 0) 4) ≠ 2 →
    ps_At (d + 1) 76 20 [(0, .ref r0)] [] s Q) ∧
  ((ps_i s (ps_c0 r0 0) 4) = 2 →
    ps_nk (ps_is r0 3) (ps_Cl d 73 [.ref r0, .int x1, .int 1] s (ps_rI (fun v1 s1 =>
      (v1 ≠ 0 →
        ps_nk (ps_is r0 3) (ps_nk (ps_is r0 3) (ps_nk (ps_is (ps_c0 r0 0) 10) (ps_nk (ps_is (ps_r s1 r0 5) 9) (ps_Cl d 128 [.ref (ps_r s1 r0 5), .long (ps_j s1 (ps_c0 r0 0) 8)] s1 (ps_rI (fun v2 s2 =>
          (v2 ≠ (-1) →
            ps_At (d + 1) 76 59 [(0, .ref r0), (1, .int x1), (2, .int v2)] [] s2 Q) ∧
          (v2 = (-1) →
            ps_nk (ps_is r0 3) (ps_Cl d 77 [.ref r0] s2 (ps_rI (fun v3 s3 =>
              (v3 ≠ 0 →
                ps_At (d + 1) 76 59 [(0, .ref r0), (1, .int x1), (2, .int v2)] [] s3 Q) ∧
              (v3 = 0 →
                ps_nk (ps_is r0 3) (ps_Cl d 62 [.ref r0, .int 2] s3 (ps_rI (fun v4 s4 =>
                  ps_nd (decide (v4 &&& 1 = v4)) (Q (some (.int v4)) s4)))))))))))))))) ∧
      (v1 = 0 →
        ps_At (d + 1) 76 20 [(0, .ref r0)] [] s1 Q)))))))) : ps_At (d + 1) 76 0 [(0, .ref r0), (1, .int x1)] [] s Q :=
  ps_wp_at (stops := [(20, [0]), (59, [0, 1, 2])]) (n := 29) h rfl

theorem pg_76_20 {d : Nat} {r0 : Nat} {s : ps_S} {Q : Option Value → ps_S → Prop} (h :
  ps_nk (ps_is r0 3) (ps_Cl d 62 [.ref r0, .int 2] s (ps_rI (fun v1 s1 =>
    ps_nd (decide (v1 &&& 1 = v1)) (Q (some (.int v1)) s1))))) : ps_At (d + 1) 76 20 [(0, .ref r0)] [] s Q :=
  ps_wp_at (stops := [(20, [0]), (59, [0, 1, 2])]) (n := 6) h rfl

