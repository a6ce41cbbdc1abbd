set_option maxRecDepth 100000
theorem pg_204_27 {d : Nat} {x1 : Int32} {x2 : Int32} {s : ps_S} {Q : Option Value → ps_S → Prop} (h :
  ps_Cl d 192 [.ref 1131] s (ps_rI (fun v1 s1 =>
    (v1 ≠ 0 →
      ps_Cl d 194 [.ref 1131] s1 (ps_rV (fun s2 =>
        ((ps_i s2 1131 9) = 2 →
          (x2 = 0 →
            ps_Cl d 206 [.ref 1131] s2 (ps_rI (fun v3 s3 =>
              (0 ≤ v3 →
                ps_At (d + 1) 204 82 [(0, .ref 1131), (1, .int x1), (2, .int x2)] [] s3 Q) ∧
              (v3 < 0 →
                ps_Cl d 207 [.ref 1131] s3 (ps_rI (fun v4 s4 =>
                  (v4 < 0 →
                    ps_At (d + 1) 204 91 [(0, .ref 1131), (1, .int x1), (2, .int x2)] [] s4 Q) ∧
                  (0 ≤ v4 →
                    ps_At (d + 1) 204 82 [(0, .ref 1131), (1, .int x1), (2, .int x2)] [] s4 Q))))))) ∧
          (x2 ≠ 0 →
            ps_Cl d 205 [.ref 1131] s2 (ps_rI (fun v5 s5 =>
              (v5 < 0 →
                ps_At (d + 1) 204 91 [(0, .ref 1131), (1, .int x1), (2, .int x2)] [] s5 Q) ∧
              (0 ≤ v5 →
                ps_At (d + 1) 204 82 [(0, .ref 1131), (1, .int x1), (2, .int x2)] [] s5 Q))))) ∧
        ((ps_i s2 1131 9) ≠ 2 →
          ps_Cl d 196 [.ref 1131] s2 (ps_rV (fun s6 =>
            ps_At (d + 1) 204 91 [(0, .ref 1131), (1, .int x1), (2, .int x2)] [] s6 Q)))))) ∧
    (v1 = 0 →
      Q none s1)))) : ps_At (d + 1) 204 27 [(0, .ref 1131), (1, .int x1), (2, .int x2)] [] s Q :=
  ps_wp_at (stops := [(27, [0, 1, 2]), (82, [0, 1, 2]), (91, [0, 1, 2]), (213, [0, 1, 3]), (271, [0, 1, 3]), (282, [0, 1, 3]), (360, [0])]) (n := 27) h rfl

