set_option maxRecDepth 100000
theorem pg_252_146 {d : Nat} {x1 : Int32} {x2 : Int32} {s : ps_S} {Q : Option Value → ps_S → Prop} (h :
  (x2 ≤ 1 →
    ps_At (d + 1) 252 162 [(0, .ref 1131), (1, .int x1), (2, .int x2)] [] s Q) ∧
  (1 < x2 →
    ps_nd (pm_in x1 40) (ps_Cl d 251 [.ref 1131, .int x1, .int (ps_a s 1154 (Int32.toNatClampNeg x1))] s (ps_rV (fun s1 =>
      ps_At (d + 1) 252 162 [(0, .ref 1131), (1, .int x1), (2, .int x2)] [] s1 Q))))) : ps_At (d + 1) 252 146 [(0, .ref 1131), (1, .int x1), (2, .int x2)] [] s Q :=
  ps_wp_at (stops := [(84, [0, 1]), (146, [0, 1, 2]), (162, [0, 1, 2]), (178, [0, 1]), (219, [0, 1]), (232, [0, 1]), (248, [0, 1]), (253, [0, 1])]) (n := 12) h rfl


theorem pg_252_162 {d : Nat} {x1 : Int32} {x2 : Int32} {s : ps_S} {Q : Option Value → ps_S → Prop} (h :
  (x2 ≤ 2 →
    ps_At (d + 1) 252 178 [(0, .ref 1131), (1, .int x1)] [] s Q) ∧
  (2 < x2 →
    ps_nd (pm_in x1 40) (ps_Cl d 251 [.ref 1131, .int x1, .int (ps_a s 1155 (Int32.toNatClampNeg x1))] s (ps_rV (fun s1 =>
      ps_At (d + 1) 252 178 [(0, .ref 1131), (1, .int x1)] [] s1 Q))))) : ps_At (d + 1) 252 162 [(0, .ref 1131), (1, .int x1), (2, .int x2)] [] s Q :=
  ps_wp_at (stops := [(84, [0, 1]), (146, [0, 1, 2]), (162, [0, 1, 2]), (178, [0, 1]), (219, [0, 1]), (232, [0, 1]), (248, [0, 1]), (253, [0, 1])]) (n := 12) h rfl


theorem pg_252_178 {d : Nat} {x1 : Int32} {s : ps_S} {Q : Option Value → ps_S → Prop} (h :
  ps_nd (pm_in x1 40) ((8 ≤ (ps_a s 1152 (Int32.toNatClampNeg x1)) →
    ps_nd (pm_in x1 40) (((ps_a s 1152 (Int32.toNatClampNeg x1)) < 11 →
      ps_At (d + 1) 252 219 [(0, .ref 1131), (1, .int x1)] [] s Q) ∧
    (11 ≤ (ps_a s 1152 (Int32.toNatClampNeg x1)) →
      ps_nd (pm_in x1 40) (((ps_a s 1152 (Int32.toNatClampNeg x1)) ≤ 16 →
        ps_Cl d 257 [.ref 1131, .int x1] s (ps_rV (fun s1 =>
          ps_At (d + 1) 252 232 [(0, .ref 1131), (1, .int x1)] [] s1 Q))) ∧
      (16 < (ps_a s 1152 (Int32.toNatClampNeg x1)) →
        ps_At (d + 1) 252 219 [(0, .ref 1131), (1, .int x1)] [] s Q))))) ∧
  ((ps_a s 1152 (Int32.toNatClampNeg x1)) < 8 →
    ps_Cl d 253 [.ref 1131, .int x1] s (ps_rV (fun s2 =>
      ps_At (d + 1) 252 232 [(0, .ref 1131), (1, .int x1)] [] s2 Q))))) : ps_At (d + 1) 252 178 [(0, .ref 1131), (1, .int x1)] [] s Q :=
  ps_wp_at (stops := [(84, [0, 1]), (146, [0, 1, 2]), (162, [0, 1, 2]), (178, [0, 1]), (219, [0, 1]), (232, [0, 1]), (248, [0, 1]), (253, [0, 1])]) (n := 27) h rfl


theorem pg_252_219 {d : Nat} {x1 : Int32} {s : ps_S} {Q : Option Value → ps_S → Prop} (h :
  ps_Cl d 255 [.ref 1131, .int x1] s (ps_rV (fun s1 =>
    ps_At (d + 1) 252 232 [(0, .ref 1131), (1, .int x1)] [] s1 Q))) : ps_At (d + 1) 252 219 [(0, .ref 1131), (1, .int x1)] [] s Q :=
  ps_wp_at (stops := [(84, [0, 1]), (146, [0, 1, 2]), (162, [0, 1, 2]), (178, [0, 1]), (219, [0, 1]), (232, [0, 1]), (248, [0, 1]), (253, [0, 1])]) (n := 6) h rfl


theorem pg_252_232 {d : Nat} {x1 : Int32} {s : ps_S} {Q : Option Value → ps_S → Prop} (h :
  (12 < (ps_i s 1131 51) →
    ps_At (d + 1) 252 248 [(0, .ref 1131), (1, .int x1)] [] s Q) ∧
  ((ps_i s 1131 51) ≤ 12 →
    ps_Cl d 228 [.ref 1131] s (ps_rI (fun v1 s1 =>
      (v1 ≠ 0 →
        ps_At (d + 1) 252 253 [(0, .ref 1131), (1, .int x1)] [] s1 Q) ∧
      (v1 = 0 →
        ps_At (d + 1) 252 248 [(0, .ref 1131), (1, .int x1)] [] s1 Q))))) : ps_At (d + 1) 252 232 [(0, .ref 1131), (1, .int x1)] [] s Q :=
  ps_wp_at (stops := [(84, [0, 1]), (146, [0, 1, 2]), (162, [0, 1, 2]), (178, [0, 1]), (219, [0, 1]), (232, [0, 1]), (248, [0, 1]), (253, [0, 1])]) (n := 9) h rfl

