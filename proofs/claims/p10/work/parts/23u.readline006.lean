set_option maxRecDepth 100000
theorem pg_204_360 {d : Nat} {s : ps_S} {Q : Option Value → ps_S → Prop} (h :
  ((ps_i s 1131 9) ≠ 5 →
    ps_Cl d 197 [.ref 1131, .int 0] s (ps_rV (fun s1 =>
      Q none s1))) ∧
  ((ps_i s 1131 9) = 5 →
    ps_Cl d 197 [.ref 1131, .int 1] s (ps_rV (fun s2 =>
      Q none s2)))) : ps_At (d + 1) 204 360 [(0, .ref 1131)] [] s Q :=
  ps_wp_at (stops := [(27, [0, 1, 2]), (82, [0, 1, 2]), (91, [0, 1, 2]), (213, [0, 1, 3]), (271, [0, 1, 3]), (282, [0, 1, 3]), (360, [0])]) (n := 14) h rfl

