set_option maxRecDepth 100000
theorem pg_232_86 {d : Nat} {x1 : Int32} {x2 : Int32} {x3 : Int32} {x4 : Int32} {s : ps_S} {Q : Option Value → ps_S → Prop} (h :
  ps_Cl d 221 [.ref 1131, .int x1, .int x4] s (ps_rI (fun v1 s1 =>
    ps_nd (pm_in x3 260) (ps_At (d + 1) 232 10 [(0, .ref 1131), (1, .int x1), (2, .int x2), (3, .int (x3 + 1)), (4, .int (x4 + 1))] [] (ps_ua s1 1150 (Int32.toNatClampNeg x3) v1) Q)))) : ps_At (d + 1) 232 86 [(0, .ref 1131), (1, .int x1), (2, .int x2), (3, .int x3), (4, .int x4)] [] s Q :=
  ps_wp_at (stops := [(10, [0, 1, 2, 3, 4]), (20, [0, 1, 2, 3, 4]), (43, [0, 1, 2, 3, 4]), (86, [0, 1, 2, 3, 4])]) (n := 13) h rfl

