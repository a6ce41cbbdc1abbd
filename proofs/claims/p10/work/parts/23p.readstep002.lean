set_option maxRecDepth 100000
theorem pg_238_205 {d : Nat} {s : ps_S} {Q : Option Value → ps_S → Prop} (h :
  ps_Cl d 192 [.ref 1131] s (ps_rI (fun v1 s1 =>
    (v1 = 0 →
      ps_At (d + 1) 238 216 [(0, .ref 1131)] [] s1 Q) ∧
    (v1 ≠ 0 →
      ps_Cl d 194 [.ref 1131] s1 (ps_rV (fun s2 =>
        ps_At (d + 1) 238 216 [(0, .ref 1131)] [] s2 Q)))))) : ps_At (d + 1) 238 205 [(0, .ref 1131)] [] s Q :=
  ps_wp_at (stops := [(20, [0, 1, 2]), (24, [0, 1, 2]), (53, [0, 1, 2]), (70, [0, 1, 2]), (88, [0, 1, 2]), (106, [0, 1, 2]), (134, [0, 1, 2]), (162, [0, 1, 2]), (181, [0, 1]), (205, [0]), (216, [0])]) (n := 7) h rfl


theorem pg_238_216 {d : Nat} {s : ps_S} {Q : Option Value → ps_S → Prop} (h :
  ((ps_i s 1131 9) ≠ 5 →
    ps_Cl d 197 [.ref 1131, .int 0] s (ps_rV (fun s1 =>
      Q none (ps_ui s1 1131 42 ((ps_i s1 1131 42) + 1))))) ∧
  ((ps_i s 1131 9) = 5 →
    ps_Cl d 197 [.ref 1131, .int 1] s (ps_rV (fun s2 =>
      Q none (ps_ui s2 1131 42 ((ps_i s2 1131 42) + 1)))))) : ps_At (d + 1) 238 216 [(0, .ref 1131)] [] s Q :=
  ps_wp_at (stops := [(20, [0, 1, 2]), (24, [0, 1, 2]), (53, [0, 1, 2]), (70, [0, 1, 2]), (88, [0, 1, 2]), (106, [0, 1, 2]), (134, [0, 1, 2]), (162, [0, 1, 2]), (181, [0, 1]), (205, [0]), (216, [0])]) (n := 26) h rfl

