set_option maxRecDepth 100000
theorem pg_252_248 {d : Nat} {x1 : Int32} {s : ps_S} {Q : Option Value → ps_S → Prop} (h :
  ps_Cl d 241 [.ref 1131, .int 5] s (ps_rV (fun s1 =>
    ps_At (d + 1) 252 253 [(0, .ref 1131), (1, .int x1)] [] s1 Q))) : ps_At (d + 1) 252 248 [(0, .ref 1131), (1, .int x1)] [] s Q :=
  ps_wp_at (stops := [(84, [0, 1]), (146, [0, 1, 2]), (162, [0, 1, 2]), (178, [0, 1]), (219, [0, 1]), (232, [0, 1]), (248, [0, 1]), (253, [0, 1])]) (n := 5) h rfl


theorem pg_252_253 {d : Nat} {x1 : Int32} {s : ps_S} {Q : Option Value → ps_S → Prop} (h :
  ((ps_i s 1131 50) ≤ 0 →
    ps_Cl d 242 [.int x1] s (ps_rI (fun v1 s1 =>
      ps_Cl d 229 [.ref 1131, .int v1] s1 (ps_rV (fun s2 =>
        ps_nd (pm_in x1 41) (Q none (ps_ua s2 1157 (Int32.toNatClampNeg x1) (ps_i s2 1131 51)))))))) ∧
  (0 < (ps_i s 1131 50) →
    Q none s)) : ps_At (d + 1) 252 253 [(0, .ref 1131), (1, .int x1)] [] s Q :=
  ps_wp_at (stops := [(84, [0, 1]), (146, [0, 1, 2]), (162, [0, 1, 2]), (178, [0, 1]), (219, [0, 1]), (232, [0, 1]), (248, [0, 1]), (253, [0, 1])]) (n := 17) h rfl

