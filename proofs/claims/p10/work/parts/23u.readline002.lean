set_option maxRecDepth 100000
theorem pg_204_82 {d : Nat} {x1 : Int32} {x2 : Int32} {s : ps_S} {Q : Option Value → ps_S → Prop} (h :
  ps_Cl d 191 [.ref 1131, .int 3, .int (ps_i s 1131 7)] s (ps_rV (fun s1 =>
    ps_At (d + 1) 204 91 [(0, .ref 1131), (1, .int x1), (2, .int x2)] [] s1 Q))) : ps_At (d + 1) 204 82 [(0, .ref 1131), (1, .int x1), (2, .int x2)] [] s Q :=
  ps_wp_at (stops := [(27, [0, 1, 2]), (82, [0, 1, 2]), (91, [0, 1, 2]), (213, [0, 1, 3]), (271, [0, 1, 3]), (282, [0, 1, 3]), (360, [0])]) (n := 7) h rfl

