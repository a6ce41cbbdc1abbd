set_option maxRecDepth 100000
theorem pg_252_84 {d : Nat} {x1 : Int32} {s : ps_S} {Q : Option Value → ps_S → Prop} (h :
  ps_nd (pm_in x1 40) (ps_Cl d 250 [.ref 1131, .int x1] (ps_ub s 1160 (Int32.toNatClampNeg x1) ((1 : Int64) <<< (Int32.toInt64 x1 &&& 63))) (ps_rI (fun v1 s1 =>
    (v1 ≠ 0 →
      ps_nd (pm_in x1 40) (((ps_a s1 1152 (Int32.toNatClampNeg x1)) ≠ 2 →
        ps_nd (pm_in x1 40) (ps_Cl d 234 [.int (ps_a s1 1152 (Int32.toNatClampNeg x1))] s1 (ps_rI (fun v2 s2 =>
          (v2 ≤ 0 →
            ps_At (d + 1) 252 146 [(0, .ref 1131), (1, .int x1), (2, .int v2)] [] s2 Q) ∧
          (0 < v2 →
            ps_nd (pm_in x1 40) (ps_Cl d 251 [.ref 1131, .int x1, .int (ps_a s2 1153 (Int32.toNatClampNeg x1))] s2 (ps_rV (fun s3 =>
              ps_At (d + 1) 252 146 [(0, .ref 1131), (1, .int x1), (2, .int v2)] [] s3 Q)))))))) ∧
      ((ps_a s1 1152 (Int32.toNatClampNeg x1)) = 2 →
        ((0 : Int32) ≤ 0 →
          ps_At (d + 1) 252 146 [(0, .ref 1131), (1, .int x1), (2, .int 0)] [] s1 Q) ∧
        ((0 : Int32) < (0 : Int32) →
          ps_nd (pm_in x1 40) (ps_Cl d 251 [.ref 1131, .int x1, .int (ps_a s1 1153 (Int32.toNatClampNeg x1))] s1 (ps_rV (fun s4 =>
            ps_At (d + 1) 252 146 [(0, .ref 1131), (1, .int x1), (2, .int 0)] [] s4 Q))))))) ∧
    (v1 = 0 →
      ps_Cl d 241 [.ref 1131, .int 1] s1 (ps_rV (fun s5 =>
        Q none s5))))))) : ps_At (d + 1) 252 84 [(0, .ref 1131), (1, .int x1)] [] s Q :=
  ps_wp_at (stops := [(84, [0, 1]), (146, [0, 1, 2]), (162, [0, 1, 2]), (178, [0, 1]), (219, [0, 1]), (232, [0, 1]), (248, [0, 1]), (253, [0, 1])]) (n := 50) h rfl

