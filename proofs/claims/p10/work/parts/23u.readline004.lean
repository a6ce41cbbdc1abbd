set_option maxRecDepth 100000
theorem pg_204_213 {d : Nat} {x1 : Int32} {l3 : Int64} {s : ps_S} {Q : Option Value → ps_S → Prop} (h :
  (x1 = 0 →
    ps_nd (pm_in (ps_i s 1131 22) 2) (ps_nd (pm_in (((4 : Int32) * (ps_i s 1131 22)) + (ps_a s 1136 (Int32.toNatClampNeg (ps_i s 1131 22)))) 8) (ps_At (d + 1) 204 271 [(0, .ref 1131), (1, .int x1), (3, .long l3)] [] (ps_ua s 1139 (Int32.toNatClampNeg (((4 : Int32) * (ps_i s 1131 22)) + (ps_a s 1136 (Int32.toNatClampNeg (ps_i s 1131 22))))) (ps_i s 1131 10)) Q))) ∧
  (x1 ≠ 0 →
    ps_nd (pm_in (ps_i s 1131 22) 2) (ps_nd (pm_in (((6 : Int32) * (ps_i s 1131 22)) + (ps_a s 1135 (Int32.toNatClampNeg (ps_i s 1131 22)))) 12) (ps_At (d + 1) 204 271 [(0, .ref 1131), (1, .int x1), (3, .long l3)] [] (ps_ua s 1138 (Int32.toNatClampNeg (((6 : Int32) * (ps_i s 1131 22)) + (ps_a s 1135 (Int32.toNatClampNeg (ps_i s 1131 22))))) (ps_i s 1131 10)) Q)))) : ps_At (d + 1) 204 213 [(0, .ref 1131), (1, .int x1), (3, .long l3)] [] s Q :=
  ps_wp_at (stops := [(27, [0, 1, 2]), (82, [0, 1, 2]), (91, [0, 1, 2]), (213, [0, 1, 3]), (271, [0, 1, 3]), (282, [0, 1, 3]), (360, [0])]) (n := 35) h rfl


theorem pg_204_271 {d : Nat} {x1 : Int32} {l3 : Int64} {s : ps_S} {Q : Option Value → ps_S → Prop} (h :
  ps_Cl d 192 [.ref 1131] s (ps_rI (fun v1 s1 =>
    (v1 = 0 →
      ps_At (d + 1) 204 282 [(0, .ref 1131), (1, .int x1), (3, .long l3)] [] s1 Q) ∧
    (v1 ≠ 0 →
      ps_Cl d 194 [.ref 1131] s1 (ps_rV (fun s2 =>
        ps_At (d + 1) 204 282 [(0, .ref 1131), (1, .int x1), (3, .long l3)] [] s2 Q)))))) : ps_At (d + 1) 204 271 [(0, .ref 1131), (1, .int x1), (3, .long l3)] [] s Q :=
  ps_wp_at (stops := [(27, [0, 1, 2]), (82, [0, 1, 2]), (91, [0, 1, 2]), (213, [0, 1, 3]), (271, [0, 1, 3]), (282, [0, 1, 3]), (360, [0])]) (n := 7) h rfl

