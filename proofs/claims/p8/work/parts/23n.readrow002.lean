set_option maxRecDepth 100000
theorem pg_209_92 {d : Nat} {x1 : Int32} {x2 : Int32} {s : ps_S} {Q : Option Value → ps_S → Prop} (h :
  ps_Cl d 192 [.ref 1131] s (ps_rI (fun v1 s1 =>
    (v1 = 0 →
      ps_At (d + 1) 209 30 [(0, .ref 1131), (1, .int x1), (2, .int x2), (4, .int 0)] [] s1 Q) ∧
    (v1 ≠ 0 →
      ps_Cl d 212 [.ref 1131, .int x1] s1 (ps_rI (fun v2 s2 =>
        (v2 = 0 →
          ps_At (d + 1) 209 30 [(0, .ref 1131), (1, .int x1), (2, .int x2), (4, .int 0)] [] s2 Q) ∧
        (v2 ≠ 0 →
          ps_At (d + 1) 209 30 [(0, .ref 1131), (1, .int x1), (2, .int x2), (4, .int 1)] [] s2 Q))))))) : ps_At (d + 1) 209 92 [(0, .ref 1131), (1, .int x1), (2, .int x2)] [] s Q :=
  ps_wp_at (stops := [(30, [0, 1, 2, 4]), (92, [0, 1, 2])]) (n := 19) h rfl

