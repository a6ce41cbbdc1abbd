set_option maxRecDepth 100000
theorem pg_232_43 {d : Nat} {x1 : Int32} {x2 : Int32} {x3 : Int32} {x4 : Int32} {s : ps_S} {Q : Option Value → ps_S → Prop} (h :
  ps_Cl d 220 [.ref 1131, .int x1, .int x4] s (ps_rI (fun v1 s1 =>
    (v1 ≠ ((60 : Int32) + x2) →
      ps_Cl d 225 [.ref 1131, .int v1] s1 (ps_rV (fun s2 =>
        (v1 = 4 →
          ps_At (d + 1) 232 86 [(0, .ref 1131), (1, .int x1), (2, .int x2), (3, .int x3), (4, .int x4)] [] s2 Q) ∧
        (v1 ≠ 4 →
          (v1 ≠ 5 →
            ps_At (d + 1) 232 10 [(0, .ref 1131), (1, .int x1), (2, .int x2), (3, .int x3), (4, .int (x4 + 1))] [] s2 Q) ∧
          (v1 = 5 →
            ps_At (d + 1) 232 86 [(0, .ref 1131), (1, .int x1), (2, .int x2), (3, .int x3), (4, .int x4)] [] s2 Q))))) ∧
    (v1 = ((60 : Int32) + x2) →
      ps_Cl d 225 [.ref 1131, .int ((40 : Int32) + x3)] s1 (ps_rV (fun s3 =>
        (v1 = 4 →
          ps_At (d + 1) 232 86 [(0, .ref 1131), (1, .int x1), (2, .int x2), (3, .int x3), (4, .int x4)] [] s3 Q) ∧
        (v1 ≠ 4 →
          (v1 ≠ 5 →
            ps_At (d + 1) 232 10 [(0, .ref 1131), (1, .int x1), (2, .int x2), (3, .int x3), (4, .int (x4 + 1))] [] s3 Q) ∧
          (v1 = 5 →
            ps_At (d + 1) 232 86 [(0, .ref 1131), (1, .int x1), (2, .int x2), (3, .int x3), (4, .int x4)] [] s3 Q)))))))) : ps_At (d + 1) 232 43 [(0, .ref 1131), (1, .int x1), (2, .int x2), (3, .int x3), (4, .int x4)] [] s Q :=
  ps_wp_at (stops := [(10, [0, 1, 2, 3, 4]), (20, [0, 1, 2, 3, 4]), (43, [0, 1, 2, 3, 4]), (86, [0, 1, 2, 3, 4])]) (n := 36) h rfl

