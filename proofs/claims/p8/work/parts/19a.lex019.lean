set_option maxRecDepth 100000
theorem pg_198_0 {d : Nat} {s : ps_S} {Q : Option Value → ps_S → Prop} (h :
  ps_At (d + 1) 198 20 [(0, .ref 1131), (1, .int 0)] [] (ps_ui (ps_ui (ps_ui s 1131 5 0) 1131 6 (-1)) 1131 4 (ps_i (ps_ui (ps_ui s 1131 5 0) 1131 6 (-1)) 1131 3)) Q) : ps_At (d + 1) 198 0 [(0, .ref 1131)] [] s Q :=
  ps_wp_at (stops := [(20, [0, 1])]) (n := 14) h rfl

theorem pg_198_20 {d : Nat} {x1 : Int32} {s : ps_S} {Q : Option Value → ps_S → Prop} (h :
  ((ps_i s 1131 4) ≤ x1 →
    ps_Cl d 194 [.ref 1131] (ps_ui (ps_ui (ps_ui (ps_ui s 1131 3 0) 1131 8 0) 1131 23 0) 1131 22 (ps_i (ps_ui (ps_ui (ps_ui s 1131 3 0) 1131 8 0) 1131 23 0) 1131 21)) (ps_rV (fun s1 =>
      Q none s1))) ∧
  (x1 < (ps_i s 1131 4) →
    ps_nd (pm_in x1 1620) (ps_nd (pm_in x1 1600) (ps_At (d + 1) 198 20 [(0, .ref 1131), (1, .int (x1 + 1))] [] (ps_ua s 1133 (Int32.toNatClampNeg x1) (Int8.toInt32 (Int32.toInt8 (ps_a s 1132 (Int32.toNatClampNeg x1))))) Q)))) : ps_At (d + 1) 198 20 [(0, .ref 1131), (1, .int x1)] [] s Q :=
  ps_wp_at (stops := [(20, [0, 1])]) (n := 32) h rfl

