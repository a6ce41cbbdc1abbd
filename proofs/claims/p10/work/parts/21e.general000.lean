set_option maxRecDepth 100000
-- ProofBenchModel.makeGeneral(II)V
theorem pg_232_0 {d : Nat} {x1 : Int32} {x2 : Int32} {s : ps_S} {Q : Option Value → ps_S → Prop} (h :
  ps_Cl d 225 [.ref 1131, .int 4] s (ps_rV (fun s1 =>
    ps_At (d + 1) 232 10 [(0, .ref 1131), (1, .int x1), (2, .int x2), (3, .int 0), (4, .int 0)] [] s1 Q))) : ps_At (d + 1) 232 0 [(0, .ref 1131), (1, .int x1), (2, .int x2)] [] s Q :=
  ps_wp_at (stops := [(10, [0, 1, 2, 3, 4]), (20, [0, 1, 2, 3, 4]), (43, [0, 1, 2, 3, 4]), (86, [0, 1, 2, 3, 4])]) (n := 9) h rfl


theorem pg_232_10 {d : Nat} {x1 : Int32} {x2 : Int32} {x3 : Int32} {x4 : Int32} {s : ps_S} {Q : Option Value → ps_S → Prop} (h :
  ps_Cl d 219 [.ref 1131, .int x1] s (ps_rI (fun v1 s1 =>
    (v1 ≤ x4 →
      Q none s1) ∧
    (x4 < v1 →
      ps_At (d + 1) 232 20 [(0, .ref 1131), (1, .int x1), (2, .int x2), (3, .int x3), (4, .int x4)] [] s1 Q)))) : ps_At (d + 1) 232 10 [(0, .ref 1131), (1, .int x1), (2, .int x2), (3, .int x3), (4, .int x4)] [] s Q :=
  ps_wp_at (stops := [(10, [0, 1, 2, 3, 4]), (20, [0, 1, 2, 3, 4]), (43, [0, 1, 2, 3, 4]), (86, [0, 1, 2, 3, 4])]) (n := 8) h rfl


theorem pg_232_20 {d : Nat} {x1 : Int32} {x2 : Int32} {x3 : Int32} {x4 : Int32} {s : ps_S} {Q : Option Value → ps_S → Prop} (h :
  (x3 ≤ 0 →
    ps_At (d + 1) 232 43 [(0, .ref 1131), (1, .int x1), (2, .int x2), (3, .int x3), (4, .int x4)] [] s Q) ∧
  (0 < x3 →
    ps_nd (pm_in (x3 - 1) 260) ((x4 < (ps_a s 1150 (Int32.toNatClampNeg (x3 - 1))) →
      ps_At (d + 1) 232 43 [(0, .ref 1131), (1, .int x1), (2, .int x2), (3, .int x3), (4, .int x4)] [] s Q) ∧
    ((ps_a s 1150 (Int32.toNatClampNeg (x3 - 1))) ≤ x4 →
      ps_At (d + 1) 232 20 [(0, .ref 1131), (1, .int x1), (2, .int x2), (3, .int (x3 + (Int32.ofInt (-1)))), (4, .int x4)] [] s Q)))) : ps_At (d + 1) 232 20 [(0, .ref 1131), (1, .int x1), (2, .int x2), (3, .int x3), (4, .int x4)] [] s Q :=
  ps_wp_at (stops := [(10, [0, 1, 2, 3, 4]), (20, [0, 1, 2, 3, 4]), (43, [0, 1, 2, 3, 4]), (86, [0, 1, 2, 3, 4])]) (n := 14) h rfl

