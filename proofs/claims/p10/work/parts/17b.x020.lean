set_option maxRecDepth 100000
theorem pg_21_21 {d : Nat} {r0 : Nat} {r1 : Nat} {x3 : Int32} {s : ps_S} {Q : Option Value → ps_S → Prop} (h :
  ps_nk (ps_is r1 5) (((ps_i s r1 1) ≤ x3 →
    Q none s) ∧
  (x3 < (ps_i s r1 1) →
    ps_nk (ps_is r1 5) (ps_Cl d 92 [.ref r1, .int x3] s (ps_rI (fun v1 s1 =>
      (v1 < 4 →
        ps_nk (ps_is r0 1) (ps_nk (ps_is r0 1) (((0 : Int32) = 0 →
          ps_nk (ps_is r1 5) (ps_Cl d 92 [.ref r1, .int x3] s1 (ps_rI (fun v2 s2 =>
            ps_Cl d 183 [.ref (ps_c0 r0 1), .int (ps_i s1 r0 2), .int v2] s2 (ps_rV (fun s3 =>
              ps_nk (ps_is r0 1) (ps_nk (ps_is r0 1) (((0 : Int32) = 0 →
                ps_At (d + 1) 21 21 [(0, .ref r0), (1, .ref r1), (3, .int (x3 + 1))] [] (ps_ui s3 r0 2 ((ps_i s3 r0 2) + 1)) Q) ∧
              ((0 : Int32) ≠ 0 →
                ps_nk (ps_is r0 1) (ps_nk (ps_is (ps_c0 r0 0) 6) (ps_Cl d 104 [.ref (ps_c0 r0 0), .int x3] (ps_ui s3 r0 2 ((ps_i s3 r0 2) + 1)) (ps_rI (fun v4 s4 =>
                  ps_At (d + 1) 21 21 [(0, .ref r0), (1, .ref r1), (3, .int (if (x3 + 1) < v4 then v4 else (x3 + 1)))] [] s4 Q))))))))))))) ∧
        ((0 : Int32) ≠ 0 →
          ps_nk (ps_is r0 1) (ps_Cl d 22 [.ref r0, .ref r1, .int x3] s1 (ps_rI (fun v5 s5 =>
            ps_Cl d 183 [.ref (ps_c0 r0 1), .int (ps_i s1 r0 2), .int ((4 : Int32) + v5)] s5 (ps_rV (fun s6 =>
              ps_nk (ps_is r0 1) (ps_nk (ps_is r0 1) (((0 : Int32) = 0 →
                ps_At (d + 1) 21 21 [(0, .ref r0), (1, .ref r1), (3, .int (x3 + 1))] [] (ps_ui s6 r0 2 ((ps_i s6 r0 2) + 1)) Q) ∧
              ((0 : Int32) ≠ 0 →
                ps_nk (ps_is r0 1) (ps_nk (ps_is (ps_c0 r0 0) 6) (ps_Cl d 104 [.ref (ps_c0 r0 0), .int x3] (ps_ui s6 r0 2 ((ps_i s6 r0 2) + 1)) (ps_rI (fun v7 s7 =>
                  ps_At (d + 1) 21 21 [(0, .ref r0), (1, .ref r1), (3, .int (if (x3 + 1) < v7 then v7 else (x3 + 1)))] [] s7 Q)))))))))))))))) ∧
      (4 ≤ v1 →
        ps_nk (ps_is r0 1) (ps_nk (ps_is r0 1) (((1 : Int32) = 0 →
          ps_nk (ps_is r1 5) (ps_Cl d 92 [.ref r1, .int x3] s1 (ps_rI (fun v8 s8 =>
            ps_Cl d 183 [.ref (ps_c0 r0 1), .int (ps_i s1 r0 2), .int v8] s8 (ps_rV (fun s9 =>
              ps_nk (ps_is r0 1) (ps_nk (ps_is r0 1) (((1 : Int32) = 0 →
                ps_At (d + 1) 21 21 [(0, .ref r0), (1, .ref r1), (3, .int (x3 + 1))] [] (ps_ui s9 r0 2 ((ps_i s9 r0 2) + 1)) Q) ∧
              ((1 : Int32) ≠ 0 →
                ps_nk (ps_is r0 1) (ps_nk (ps_is (ps_c0 r0 0) 6) (ps_Cl d 104 [.ref (ps_c0 r0 0), .int x3] (ps_ui s9 r0 2 ((ps_i s9 r0 2) + 1)) (ps_rI (fun v10 s10 =>
                  ps_At (d + 1) 21 21 [(0, .ref r0), (1, .ref r1), (3, .int (if (x3 + 1) < v10 then v10 else (x3 + 1)))] [] s10 Q))))))))))))) ∧
        ((1 : Int32) ≠ 0 →
          ps_nk (ps_is r0 1) (ps_Cl d 22 [.ref r0, .ref r1, .int x3] s1 (ps_rI (fun v11 s11 =>
            ps_Cl d 183 [.ref (ps_c0 r0 1), .int (ps_i s1 r0 2), .int ((4 : Int32) + v11)] s11 (ps_rV (fun s12 =>
              ps_nk (ps_is r0 1) (ps_nk (ps_is r0 1) (((1 : Int32) = 0 →
                ps_At (d + 1) 21 21 [(0, .ref r0), (1, .ref r1), (3, .int (x3 + 1))] [] (ps_ui s12 r0 2 ((ps_i s12 r0 2) + 1)) Q) ∧
              ((1 : Int32) ≠ 0 →
                ps_nk (ps_is r0 1) (ps_nk (ps_is (ps_c0 r0 0) 6) (ps_Cl d 104 [.ref (ps_c0 r0 0), .int x3] (ps_ui s12 r0 2 ((ps_i s12 r0 2) + 1)) (ps_rI (fun v13 s13 =>
                  ps_At (d + 1) 21 21 [(0, .ref r0), (1, .ref r1), (3, .int (if (x3 + 1) < v13 then v13 else (x3 + 1)))] [] s13 Q)))))))))))))))))))))) : ps_At (d + 1) 21 21 [(0, .ref r0), (1, .ref r1), (3, .int x3)] [] s Q :=
  ps_wp_at (stops := [(21, [0, 1, 3])]) (n := 149) h rfl

