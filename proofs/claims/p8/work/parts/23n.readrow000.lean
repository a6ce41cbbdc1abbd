set_option maxRecDepth 100000
-- ProofBenchModel.readRow(IZZ)V
theorem pg_209_0 {d : Nat} {x1 : Int32} {x2 : Int32} {x3 : Int32} {s : ps_S} {Q : Option Value → ps_S → Prop} (h :
  ps_nd (pm_in x1 27400) (ps_nd (decide (x3 &&& 1 = x3)) (ps_At (d + 1) 209 30 [(0, .ref 1131), (1, .int x1), (2, .int x2), (4, .int 1)] [] (ps_ui (ps_ui (ps_ui (ps_ui (ps_ua s 1134 (Int32.toNatClampNeg x1) 0) 1131 29 0) 1131 30 0) 1131 31 0) 1131 32 x3) Q))) : ps_At (d + 1) 209 0 [(0, .ref 1131), (1, .int x1), (2, .int x2), (3, .int x3)] [] s Q :=
  ps_wp_at (stops := [(30, [0, 1, 2, 4]), (92, [0, 1, 2])]) (n := 21) h rfl

