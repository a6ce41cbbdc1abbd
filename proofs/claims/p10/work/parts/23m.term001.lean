set_option maxRecDepth 100000
theorem pg_215_49 {d : Nat} {x1 : Int32} {s : ps_S} {Q : Option Value → ps_S → Prop} (h :
  ps_Cl d 192 [.ref 1131] s (ps_rI (fun v1 s1 =>
    (v1 ≠ 0 →
      ps_Cl d 207 [.ref 1131] s1 (ps_rI (fun v2 s2 =>
        (0 ≤ v2 →
          ps_Cl d 192 [.ref 1131] s2 (ps_rI (fun v3 s3 =>
            (v3 ≠ 0 →
              (0 ≤ v2 →
                ps_Cl d 210 [.ref 1131, .int x1, .int ((20 : Int32) + v2)] (ps_ui s3 1131 31 ((ps_i s3 1131 31) + 1)) (ps_rV (fun s4 =>
                  ps_Cl d 194 [.ref 1131] s4 (ps_rV (fun s5 =>
                    (0 ≤ v2 →
                      ps_nd (pm_in (((4 : Int32) * (ps_i s5 1131 22)) + v2) 8) (ps_Cl d 211 [.ref 1131, .int (ps_a s5 1139 (Int32.toNatClampNeg (((4 : Int32) * (ps_i s5 1131 22)) + v2))), .int 1] s5 (ps_rV (fun s6 =>
                        Q none s6)))) ∧
                    (v2 < 0 →
                      ps_Cl d 211 [.ref 1131, .int 0, .int 1] s5 (ps_rV (fun s7 =>
                        Q none s7)))))))) ∧
              (v2 < 0 →
                ps_Cl d 210 [.ref 1131, .int x1, .int 0] (ps_ui s3 1131 31 ((ps_i s3 1131 31) + 1)) (ps_rV (fun s8 =>
                  ps_Cl d 194 [.ref 1131] s8 (ps_rV (fun s9 =>
                    (0 ≤ v2 →
                      ps_nd (pm_in (((4 : Int32) * (ps_i s9 1131 22)) + v2) 8) (ps_Cl d 211 [.ref 1131, .int (ps_a s9 1139 (Int32.toNatClampNeg (((4 : Int32) * (ps_i s9 1131 22)) + v2))), .int 1] s9 (ps_rV (fun s10 =>
                        Q none s10)))) ∧
                    (v2 < 0 →
                      ps_Cl d 211 [.ref 1131, .int 0, .int 1] s9 (ps_rV (fun s11 =>
                        Q none s11))))))))) ∧
            (v3 = 0 →
              Q none s3)))) ∧
        (v2 < 0 →
          ps_Cl d 216 [.ref 1131] s2 (ps_rI (fun v12 s12 =>
            ps_Cl d 192 [.ref 1131] s12 (ps_rI (fun v13 s13 =>
              (v13 ≠ 0 →
                (0 ≤ v2 →
                  ps_Cl d 210 [.ref 1131, .int x1, .int ((20 : Int32) + v2)] (ps_ui s13 1131 31 ((ps_i s13 1131 31) + 1)) (ps_rV (fun s14 =>
                    ps_Cl d 194 [.ref 1131] s14 (ps_rV (fun s15 =>
                      (0 ≤ v2 →
                        ps_nd (pm_in (((4 : Int32) * (ps_i s15 1131 22)) + v2) 8) (ps_Cl d 211 [.ref 1131, .int (ps_a s15 1139 (Int32.toNatClampNeg (((4 : Int32) * (ps_i s15 1131 22)) + v2))), .int 1] s15 (ps_rV (fun s16 =>
                          Q none s16)))) ∧
                      (v2 < 0 →
                        ps_Cl d 211 [.ref 1131, .int 0, .int 1] s15 (ps_rV (fun s17 =>
                          Q none s17)))))))) ∧
                (v2 < 0 →
                  ps_Cl d 210 [.ref 1131, .int x1, .int v12] (ps_ui s13 1131 31 ((ps_i s13 1131 31) + 1)) (ps_rV (fun s18 =>
                    ps_Cl d 194 [.ref 1131] s18 (ps_rV (fun s19 =>
                      (0 ≤ v2 →
                        ps_nd (pm_in (((4 : Int32) * (ps_i s19 1131 22)) + v2) 8) (ps_Cl d 211 [.ref 1131, .int (ps_a s19 1139 (Int32.toNatClampNeg (((4 : Int32) * (ps_i s19 1131 22)) + v2))), .int 1] s19 (ps_rV (fun s20 =>
                          Q none s20)))) ∧
                      (v2 < 0 →
                        ps_Cl d 211 [.ref 1131, .int 0, .int 1] s19 (ps_rV (fun s21 =>
                          Q none s21))))))))) ∧
              (v13 = 0 →
                Q none s13))))))))) ∧
    (v1 = 0 →
      Q none s1)))) : ps_At (d + 1) 215 49 [(0, .ref 1131), (1, .int x1)] [] s Q :=
  ps_wp_at (stops := [(19, [0, 1]), (45, [0, 1]), (49, [0, 1])]) (n := 147) h rfl

