set_option maxRecDepth 100000
theorem pg_204_91 {d : Nat} {x1 : Int32} {x2 : Int32} {s : ps_S} {Q : Option Value → ps_S → Prop} (h :
  ps_Cl d 192 [.ref 1131] s (ps_rI (fun v1 s1 =>
    (v1 ≠ 0 →
      ps_Cl d 194 [.ref 1131] s1 (ps_rV (fun s2 =>
        (x2 = 0 →
          ((ps_i s2 1131 9) = 4 →
            ((ps_i s2 1131 10) ≤ 2 →
              ps_At (d + 1) 204 213 [(0, .ref 1131), (1, .int x1), (3, .long (ps_j s1 1131 11))] [] s2 Q) ∧
            (2 < (ps_i s2 1131 10) →
              ps_Cl d 191 [.ref 1131, .int 4, .int (ps_i s2 1131 7)] s2 (ps_rV (fun s3 =>
                ps_At (d + 1) 204 213 [(0, .ref 1131), (1, .int x1), (3, .long (ps_j s1 1131 11))] [] s3 Q)))) ∧
          ((ps_i s2 1131 9) ≠ 4 →
            ps_Cl d 196 [.ref 1131] s2 (ps_rV (fun s4 =>
              ps_At (d + 1) 204 213 [(0, .ref 1131), (1, .int x1), (3, .long (ps_j s1 1131 11))] [] s4 Q)))) ∧
        (x2 ≠ 0 →
          ps_nd (pm_in (ps_i s2 1131 22) 2) (ps_nd (pm_in (((8 : Int32) * (ps_i s2 1131 22)) + (ps_a s2 1137 (Int32.toNatClampNeg (ps_i s2 1131 22)))) 16) (ps_nd (pm_in (ps_i (ps_ub s2 1142 (Int32.toNatClampNeg (((8 : Int32) * (ps_i s2 1131 22)) + (ps_a s2 1137 (Int32.toNatClampNeg (ps_i s2 1131 22))))) (ps_j s1 1131 11)) 1131 22) 2) (ps_Cl d 209 [.ref 1131, .int ((21812 : Int32) + ((41 : Int32) * (((8 : Int32) * (ps_i (ps_ub s2 1142 (Int32.toNatClampNeg (((8 : Int32) * (ps_i s2 1131 22)) + (ps_a s2 1137 (Int32.toNatClampNeg (ps_i s2 1131 22))))) (ps_j s1 1131 11)) 1131 22)) + (ps_a (ps_ub s2 1142 (Int32.toNatClampNeg (((8 : Int32) * (ps_i s2 1131 22)) + (ps_a s2 1137 (Int32.toNatClampNeg (ps_i s2 1131 22))))) (ps_j s1 1131 11)) 1137 (Int32.toNatClampNeg (ps_i (ps_ub s2 1142 (Int32.toNatClampNeg (((8 : Int32) * (ps_i s2 1131 22)) + (ps_a s2 1137 (Int32.toNatClampNeg (ps_i s2 1131 22))))) (ps_j s1 1131 11)) 1131 22)))))), .int 1, .int 1] (ps_ub s2 1142 (Int32.toNatClampNeg (((8 : Int32) * (ps_i s2 1131 22)) + (ps_a s2 1137 (Int32.toNatClampNeg (ps_i s2 1131 22))))) (ps_j s1 1131 11)) (ps_rV (fun s5 =>
            ps_nd (pm_in (ps_i s5 1131 22) 2) (ps_nd (pm_in (ps_i s5 1131 22) 2) (ps_At (d + 1) 204 360 [(0, .ref 1131)] [] (ps_ua s5 1137 (Int32.toNatClampNeg (ps_i s5 1131 22)) ((ps_a s5 1137 (Int32.toNatClampNeg (ps_i s5 1131 22))) + 1)) Q))))))))))) ∧
    (v1 = 0 →
      Q none s1)))) : ps_At (d + 1) 204 91 [(0, .ref 1131), (1, .int x1), (2, .int x2)] [] s Q :=
  ps_wp_at (stops := [(27, [0, 1, 2]), (82, [0, 1, 2]), (91, [0, 1, 2]), (213, [0, 1, 3]), (271, [0, 1, 3]), (282, [0, 1, 3]), (360, [0])]) (n := 71) h rfl

