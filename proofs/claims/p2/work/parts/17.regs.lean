/-! region lemmas, printed by genreg.py -/
set_option maxRecDepth 100000
-- ProofBenchModel.takesStep(I)V
theorem pg_252_0 {d : Nat} {x1 : Int32} {s : ps_S} {Q : Option Value → ps_S → Prop} (h :
  ps_nd (pm_in x1 40) (((ps_a (ps_ui (ps_ui (ps_ui s 1131 50 0) 1131 51 0) 1131 34 0) 1152 (Int32.toNatClampNeg x1)) ≠ 1 →
    ps_nd (pm_in x1 40) (ps_nd (pm_in x1 40) (((ps_a (ps_ua (ps_ui (ps_ui (ps_ui s 1131 50 0) 1131 51 0) 1131 34 0) 1158 (Int32.toNatClampNeg x1) 0) 1152 (Int32.toNatClampNeg x1)) ≠ 2 →
      ps_nd (pm_in x1 40) (ps_At (d + 1) 252 84 [(0, .ref 1131), (1, .int x1)] [] (ps_ua (ps_ua (ps_ui (ps_ui (ps_ui s 1131 50 0) 1131 51 0) 1131 34 0) 1158 (Int32.toNatClampNeg x1) 0) 1159 (Int32.toNatClampNeg x1) 0) Q)) ∧
    ((ps_a (ps_ua (ps_ui (ps_ui (ps_ui s 1131 50 0) 1131 51 0) 1131 34 0) 1158 (Int32.toNatClampNeg x1) 0) 1152 (Int32.toNatClampNeg x1)) = 2 →
      ps_nd (pm_in x1 40) (((ps_i (ps_ua (ps_ui (ps_ui (ps_ui s 1131 50 0) 1131 51 0) 1131 34 0) 1158 (Int32.toNatClampNeg x1) 0) 1131 54) ≤ (ps_a (ps_ua (ps_ui (ps_ui (ps_ui s 1131 50 0) 1131 51 0) 1131 34 0) 1158 (Int32.toNatClampNeg x1) 0) 1153 (Int32.toNatClampNeg x1)) →
        ps_nd (pm_in x1 40) (ps_At (d + 1) 252 84 [(0, .ref 1131), (1, .int x1)] [] (ps_ua (ps_ua (ps_ui (ps_ui (ps_ui s 1131 50 0) 1131 51 0) 1131 34 0) 1158 (Int32.toNatClampNeg x1) 0) 1159 (Int32.toNatClampNeg x1) 0) Q)) ∧
      ((ps_a (ps_ua (ps_ui (ps_ui (ps_ui s 1131 50 0) 1131 51 0) 1131 34 0) 1158 (Int32.toNatClampNeg x1) 0) 1153 (Int32.toNatClampNeg x1)) < (ps_i (ps_ua (ps_ui (ps_ui (ps_ui s 1131 50 0) 1131 51 0) 1131 34 0) 1158 (Int32.toNatClampNeg x1) 0) 1131 54) →
        ps_nd (pm_in x1 40) (ps_nd (pm_in x1 40) (ps_At (d + 1) 252 84 [(0, .ref 1131), (1, .int x1)] [] (ps_ua (ps_ua (ps_ui (ps_ui (ps_ui s 1131 50 0) 1131 51 0) 1131 34 0) 1158 (Int32.toNatClampNeg x1) 0) 1159 (Int32.toNatClampNeg x1) ((1 : Int32) <<< ((ps_a (ps_ua (ps_ui (ps_ui (ps_ui s 1131 50 0) 1131 51 0) 1131 34 0) 1158 (Int32.toNatClampNeg x1) 0) 1153 (Int32.toNatClampNeg x1)) &&& 31))) Q)))))))) ∧
  ((ps_a (ps_ui (ps_ui (ps_ui s 1131 50 0) 1131 51 0) 1131 34 0) 1152 (Int32.toNatClampNeg x1)) = 1 →
    ps_nd (pm_in x1 40) (ps_nd (pm_in x1 40) (ps_nd (pm_in x1 40) (((ps_a (ps_ua (ps_ui (ps_ui (ps_ui s 1131 50 0) 1131 51 0) 1131 34 0) 1158 (Int32.toNatClampNeg x1) ((1 : Int32) <<< ((ps_a (ps_ui (ps_ui (ps_ui s 1131 50 0) 1131 51 0) 1131 34 0) 1153 (Int32.toNatClampNeg x1)) &&& 31))) 1152 (Int32.toNatClampNeg x1)) ≠ 2 →
      ps_nd (pm_in x1 40) (ps_At (d + 1) 252 84 [(0, .ref 1131), (1, .int x1)] [] (ps_ua (ps_ua (ps_ui (ps_ui (ps_ui s 1131 50 0) 1131 51 0) 1131 34 0) 1158 (Int32.toNatClampNeg x1) ((1 : Int32) <<< ((ps_a (ps_ui (ps_ui (ps_ui s 1131 50 0) 1131 51 0) 1131 34 0) 1153 (Int32.toNatClampNeg x1)) &&& 31))) 1159 (Int32.toNatClampNeg x1) 0) Q)) ∧
    ((ps_a (ps_ua (ps_ui (ps_ui (ps_ui s 1131 50 0) 1131 51 0) 1131 34 0) 1158 (Int32.toNatClampNeg x1) ((1 : Int32) <<< ((ps_a (ps_ui (ps_ui (ps_ui s 1131 50 0) 1131 51 0) 1131 34 0) 1153 (Int32.toNatClampNeg x1)) &&& 31))) 1152 (Int32.toNatClampNeg x1)) = 2 →
      ps_nd (pm_in x1 40) (((ps_i (ps_ua (ps_ui (ps_ui (ps_ui s 1131 50 0) 1131 51 0) 1131 34 0) 1158 (Int32.toNatClampNeg x1) ((1 : Int32) <<< ((ps_a (ps_ui (ps_ui (ps_ui s 1131 50 0) 1131 51 0) 1131 34 0) 1153 (Int32.toNatClampNeg x1)) &&& 31))) 1131 54) ≤ (ps_a (ps_ua (ps_ui (ps_ui (ps_ui s 1131 50 0) 1131 51 0) 1131 34 0) 1158 (Int32.toNatClampNeg x1) ((1 : Int32) <<< ((ps_a (ps_ui (ps_ui (ps_ui s 1131 50 0) 1131 51 0) 1131 34 0) 1153 (Int32.toNatClampNeg x1)) &&& 31))) 1153 (Int32.toNatClampNeg x1)) →
        ps_nd (pm_in x1 40) (ps_At (d + 1) 252 84 [(0, .ref 1131), (1, .int x1)] [] (ps_ua (ps_ua (ps_ui (ps_ui (ps_ui s 1131 50 0) 1131 51 0) 1131 34 0) 1158 (Int32.toNatClampNeg x1) ((1 : Int32) <<< ((ps_a (ps_ui (ps_ui (ps_ui s 1131 50 0) 1131 51 0) 1131 34 0) 1153 (Int32.toNatClampNeg x1)) &&& 31))) 1159 (Int32.toNatClampNeg x1) 0) Q)) ∧
      ((ps_a (ps_ua (ps_ui (ps_ui (ps_ui s 1131 50 0) 1131 51 0) 1131 34 0) 1158 (Int32.toNatClampNeg x1) ((1 : Int32) <<< ((ps_a (ps_ui (ps_ui (ps_ui s 1131 50 0) 1131 51 0) 1131 34 0) 1153 (Int32.toNatClampNeg x1)) &&& 31))) 1153 (Int32.toNatClampNeg x1)) < (ps_i (ps_ua (ps_ui (ps_ui (ps_ui s 1131 50 0) 1131 51 0) 1131 34 0) 1158 (Int32.toNatClampNeg x1) ((1 : Int32) <<< ((ps_a (ps_ui (ps_ui (ps_ui s 1131 50 0) 1131 51 0) 1131 34 0) 1153 (Int32.toNatClampNeg x1)) &&& 31))) 1131 54) →
        ps_nd (pm_in x1 40) (ps_nd (pm_in x1 40) (ps_At (d + 1) 252 84 [(0, .ref 1131), (1, .int x1)] [] (ps_ua (ps_ua (ps_ui (ps_ui (ps_ui s 1131 50 0) 1131 51 0) 1131 34 0) 1158 (Int32.toNatClampNeg x1) ((1 : Int32) <<< ((ps_a (ps_ui (ps_ui (ps_ui s 1131 50 0) 1131 51 0) 1131 34 0) 1153 (Int32.toNatClampNeg x1)) &&& 31))) 1159 (Int32.toNatClampNeg x1) ((1 : Int32) <<< ((ps_a (ps_ua (ps_ui (ps_ui (ps_ui s 1131 50 0) 1131 51 0) 1131 34 0) 1158 (Int32.toNatClampNeg x1) ((1 : Int32) <<< ((ps_a (ps_ui (ps_ui (ps_ui s 1131 50 0) 1131 51 0) 1131 34 0) 1153 (Int32.toNatClampNeg x1)) &&& 31))) 1153 (Int32.toNatClampNeg x1)) &&& 31))) Q))))))))))) : ps_At (d + 1) 252 0 [(0, .ref 1131), (1, .int x1)] [] s Q :=
  ps_wp_at (stops := [(84, [0, 1]), (146, [0, 1, 2]), (162, [0, 1, 2]), (178, [0, 1]), (219, [0, 1]), (232, [0, 1]), (248, [0, 1]), (253, [0, 1])]) (n := 86) h rfl

theorem pg_252_84 {d : Nat} {x1 : Int32} {s : ps_S} {Q : Option Value → ps_S → Prop} (h :
  ps_nd (pm_in x1 40) (ps_Cl d 250 [.ref 1131, .int x1] (ps_ub s 1160 (Int32.toNatClampNeg x1) ((1 : Int64) <<< (Int32.toInt64 x1 &&& 63))) (ps_rI (fun v1 s1 =>
    (v1 ≠ 0 →
      ps_nd (pm_in x1 40) (((ps_a s1 1152 (Int32.toNatClampNeg x1)) ≠ 2 →
        ps_nd (pm_in x1 40) (ps_Cl d 234 [.int (ps_a s1 1152 (Int32.toNatClampNeg x1))] s1 (ps_rI (fun v2 s2 =>
          (v2 ≤ 0 →
            ps_At (d + 1) 252 146 [(0, .ref 1131), (1, .int x1), (2, .int v2)] [] s2 Q) ∧
          (0 < v2 →
            ps_nd (pm_in x1 40) (ps_Cl d 251 [.ref 1131, .int x1, .int (ps_a s2 1153 (Int32.toNatClampNeg x1))] s2 (ps_rV (fun s3 =>
              ps_At (d + 1) 252 146 [(0, .ref 1131), (1, .int x1), (2, .int v2)] [] s3 Q)))))))) ∧
      ((ps_a s1 1152 (Int32.toNatClampNeg x1)) = 2 →
        ((0 : Int32) ≤ 0 →
          ps_At (d + 1) 252 146 [(0, .ref 1131), (1, .int x1), (2, .int 0)] [] s1 Q) ∧
        ((0 : Int32) < (0 : Int32) →
          ps_nd (pm_in x1 40) (ps_Cl d 251 [.ref 1131, .int x1, .int (ps_a s1 1153 (Int32.toNatClampNeg x1))] s1 (ps_rV (fun s4 =>
            ps_At (d + 1) 252 146 [(0, .ref 1131), (1, .int x1), (2, .int 0)] [] s4 Q))))))) ∧
    (v1 = 0 →
      ps_Cl d 241 [.ref 1131, .int 1] s1 (ps_rV (fun s5 =>
        Q none s5))))))) : ps_At (d + 1) 252 84 [(0, .ref 1131), (1, .int x1)] [] s Q :=
  ps_wp_at (stops := [(84, [0, 1]), (146, [0, 1, 2]), (162, [0, 1, 2]), (178, [0, 1]), (219, [0, 1]), (232, [0, 1]), (248, [0, 1]), (253, [0, 1])]) (n := 50) h rfl

theorem pg_252_146 {d : Nat} {x1 : Int32} {x2 : Int32} {s : ps_S} {Q : Option Value → ps_S → Prop} (h :
  (x2 ≤ 1 →
    ps_At (d + 1) 252 162 [(0, .ref 1131), (1, .int x1), (2, .int x2)] [] s Q) ∧
  (1 < x2 →
    ps_nd (pm_in x1 40) (ps_Cl d 251 [.ref 1131, .int x1, .int (ps_a s 1154 (Int32.toNatClampNeg x1))] s (ps_rV (fun s1 =>
      ps_At (d + 1) 252 162 [(0, .ref 1131), (1, .int x1), (2, .int x2)] [] s1 Q))))) : ps_At (d + 1) 252 146 [(0, .ref 1131), (1, .int x1), (2, .int x2)] [] s Q :=
  ps_wp_at (stops := [(84, [0, 1]), (146, [0, 1, 2]), (162, [0, 1, 2]), (178, [0, 1]), (219, [0, 1]), (232, [0, 1]), (248, [0, 1]), (253, [0, 1])]) (n := 12) h rfl

theorem pg_252_162 {d : Nat} {x1 : Int32} {x2 : Int32} {s : ps_S} {Q : Option Value → ps_S → Prop} (h :
  (x2 ≤ 2 →
    ps_At (d + 1) 252 178 [(0, .ref 1131), (1, .int x1)] [] s Q) ∧
  (2 < x2 →
    ps_nd (pm_in x1 40) (ps_Cl d 251 [.ref 1131, .int x1, .int (ps_a s 1155 (Int32.toNatClampNeg x1))] s (ps_rV (fun s1 =>
      ps_At (d + 1) 252 178 [(0, .ref 1131), (1, .int x1)] [] s1 Q))))) : ps_At (d + 1) 252 162 [(0, .ref 1131), (1, .int x1), (2, .int x2)] [] s Q :=
  ps_wp_at (stops := [(84, [0, 1]), (146, [0, 1, 2]), (162, [0, 1, 2]), (178, [0, 1]), (219, [0, 1]), (232, [0, 1]), (248, [0, 1]), (253, [0, 1])]) (n := 12) h rfl

theorem pg_252_178 {d : Nat} {x1 : Int32} {s : ps_S} {Q : Option Value → ps_S → Prop} (h :
  ps_nd (pm_in x1 40) ((8 ≤ (ps_a s 1152 (Int32.toNatClampNeg x1)) →
    ps_nd (pm_in x1 40) (((ps_a s 1152 (Int32.toNatClampNeg x1)) < 11 →
      ps_At (d + 1) 252 219 [(0, .ref 1131), (1, .int x1)] [] s Q) ∧
    (11 ≤ (ps_a s 1152 (Int32.toNatClampNeg x1)) →
      ps_nd (pm_in x1 40) (((ps_a s 1152 (Int32.toNatClampNeg x1)) ≤ 16 →
        ps_Cl d 257 [.ref 1131, .int x1] s (ps_rV (fun s1 =>
          ps_At (d + 1) 252 232 [(0, .ref 1131), (1, .int x1)] [] s1 Q))) ∧
      (16 < (ps_a s 1152 (Int32.toNatClampNeg x1)) →
        ps_At (d + 1) 252 219 [(0, .ref 1131), (1, .int x1)] [] s Q))))) ∧
  ((ps_a s 1152 (Int32.toNatClampNeg x1)) < 8 →
    ps_Cl d 253 [.ref 1131, .int x1] s (ps_rV (fun s2 =>
      ps_At (d + 1) 252 232 [(0, .ref 1131), (1, .int x1)] [] s2 Q))))) : ps_At (d + 1) 252 178 [(0, .ref 1131), (1, .int x1)] [] s Q :=
  ps_wp_at (stops := [(84, [0, 1]), (146, [0, 1, 2]), (162, [0, 1, 2]), (178, [0, 1]), (219, [0, 1]), (232, [0, 1]), (248, [0, 1]), (253, [0, 1])]) (n := 27) h rfl

theorem pg_252_219 {d : Nat} {x1 : Int32} {s : ps_S} {Q : Option Value → ps_S → Prop} (h :
  ps_Cl d 255 [.ref 1131, .int x1] s (ps_rV (fun s1 =>
    ps_At (d + 1) 252 232 [(0, .ref 1131), (1, .int x1)] [] s1 Q))) : ps_At (d + 1) 252 219 [(0, .ref 1131), (1, .int x1)] [] s Q :=
  ps_wp_at (stops := [(84, [0, 1]), (146, [0, 1, 2]), (162, [0, 1, 2]), (178, [0, 1]), (219, [0, 1]), (232, [0, 1]), (248, [0, 1]), (253, [0, 1])]) (n := 6) h rfl

theorem pg_252_232 {d : Nat} {x1 : Int32} {s : ps_S} {Q : Option Value → ps_S → Prop} (h :
  (12 < (ps_i s 1131 51) →
    ps_At (d + 1) 252 248 [(0, .ref 1131), (1, .int x1)] [] s Q) ∧
  ((ps_i s 1131 51) ≤ 12 →
    ps_Cl d 228 [.ref 1131] s (ps_rI (fun v1 s1 =>
      (v1 ≠ 0 →
        ps_At (d + 1) 252 253 [(0, .ref 1131), (1, .int x1)] [] s1 Q) ∧
      (v1 = 0 →
        ps_At (d + 1) 252 248 [(0, .ref 1131), (1, .int x1)] [] s1 Q))))) : ps_At (d + 1) 252 232 [(0, .ref 1131), (1, .int x1)] [] s Q :=
  ps_wp_at (stops := [(84, [0, 1]), (146, [0, 1, 2]), (162, [0, 1, 2]), (178, [0, 1]), (219, [0, 1]), (232, [0, 1]), (248, [0, 1]), (253, [0, 1])]) (n := 9) h rfl

theorem pg_252_248 {d : Nat} {x1 : Int32} {s : ps_S} {Q : Option Value → ps_S → Prop} (h :
  ps_Cl d 241 [.ref 1131, .int 5] s (ps_rV (fun s1 =>
    ps_At (d + 1) 252 253 [(0, .ref 1131), (1, .int x1)] [] s1 Q))) : ps_At (d + 1) 252 248 [(0, .ref 1131), (1, .int x1)] [] s Q :=
  ps_wp_at (stops := [(84, [0, 1]), (146, [0, 1, 2]), (162, [0, 1, 2]), (178, [0, 1]), (219, [0, 1]), (232, [0, 1]), (248, [0, 1]), (253, [0, 1])]) (n := 5) h rfl

theorem pg_252_253 {d : Nat} {x1 : Int32} {s : ps_S} {Q : Option Value → ps_S → Prop} (h :
  ((ps_i s 1131 50) ≤ 0 →
    ps_Cl d 242 [.int x1] s (ps_rI (fun v1 s1 =>
      ps_Cl d 229 [.ref 1131, .int v1] s1 (ps_rV (fun s2 =>
        ps_nd (pm_in x1 41) (Q none (ps_ua s2 1157 (Int32.toNatClampNeg x1) (ps_i s2 1131 51)))))))) ∧
  (0 < (ps_i s 1131 50) →
    Q none s)) : ps_At (d + 1) 252 253 [(0, .ref 1131), (1, .int x1)] [] s Q :=
  ps_wp_at (stops := [(84, [0, 1]), (146, [0, 1, 2]), (162, [0, 1, 2]), (178, [0, 1]), (219, [0, 1]), (232, [0, 1]), (248, [0, 1]), (253, [0, 1])]) (n := 17) h rfl
