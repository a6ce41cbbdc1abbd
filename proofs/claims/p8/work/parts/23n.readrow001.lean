set_option maxRecDepth 100000
theorem pg_209_30 {d : Nat} {x1 : Int32} {x2 : Int32} {x4 : Int32} {s : ps_S} {Q : Option Value → ps_S → Prop} (h :
  ps_Cl d 192 [.ref 1131] s (ps_rI (fun v1 s1 =>
    (v1 = 0 →
      Q none s1) ∧
    (v1 ≠ 0 →
      (x4 = 0 →
        Q none s1) ∧
      (x4 ≠ 0 →
        ((ps_i s1 1131 29) ≠ 0 →
          ps_nd (pm_in ((ps_i s1 1131 29) - 1) 16) (((ps_a s1 1145 (Int32.toNatClampNeg ((ps_i s1 1131 29) - 1))) ≠ 0 →
            ((0 : Int32) = 0 →
              ps_Cl d 215 [.ref 1131, .int x1] s1 (ps_rV (fun s2 =>
                ps_At (d + 1) 209 92 [(0, .ref 1131), (1, .int x1), (2, .int x2)] [] s2 Q))) ∧
            ((0 : Int32) ≠ 0 →
              ps_Cl d 214 [.ref 1131, .int x1] s1 (ps_rV (fun s3 =>
                ps_At (d + 1) 209 92 [(0, .ref 1131), (1, .int x1), (2, .int x2)] [] s3 Q)))) ∧
          ((ps_a s1 1145 (Int32.toNatClampNeg ((ps_i s1 1131 29) - 1))) = 0 →
            ((1 : Int32) = 0 →
              ps_Cl d 215 [.ref 1131, .int x1] s1 (ps_rV (fun s4 =>
                ps_At (d + 1) 209 92 [(0, .ref 1131), (1, .int x1), (2, .int x2)] [] s4 Q))) ∧
            ((1 : Int32) ≠ 0 →
              ps_Cl d 214 [.ref 1131, .int x1] s1 (ps_rV (fun s5 =>
                ps_At (d + 1) 209 92 [(0, .ref 1131), (1, .int x1), (2, .int x2)] [] s5 Q)))))) ∧
        ((ps_i s1 1131 29) = 0 →
          (x2 = 0 →
            ps_Cl d 215 [.ref 1131, .int x1] s1 (ps_rV (fun s6 =>
              ps_At (d + 1) 209 92 [(0, .ref 1131), (1, .int x1), (2, .int x2)] [] s6 Q))) ∧
          (x2 ≠ 0 →
            ps_Cl d 214 [.ref 1131, .int x1] s1 (ps_rV (fun s7 =>
              ps_At (d + 1) 209 92 [(0, .ref 1131), (1, .int x1), (2, .int x2)] [] s7 Q))))))))) : ps_At (d + 1) 209 30 [(0, .ref 1131), (1, .int x1), (2, .int x2), (4, .int x4)] [] s Q :=
  ps_wp_at (stops := [(30, [0, 1, 2, 4]), (92, [0, 1, 2])]) (n := 55) h rfl

