set_option maxRecDepth 100000
theorem pg_194_199 {d : Nat} {s : ps_S} {Q : Option Value → ps_S → Prop} (h :
  (((ps_i s 1131 8) - (ps_i s 1131 7)) ≤ 8 →
    ps_Cl d 193 [.long (ps_j s 1131 11)] s (ps_rI (fun v1 s1 =>
      (v1 = 0 →
        Q none (ps_ui s1 1131 9 2)) ∧
      (v1 ≠ 0 →
        Q none (ps_ui s1 1131 9 3))))) ∧
  (8 < ((ps_i s 1131 8) - (ps_i s 1131 7)) →
    Q none (ps_ui s 1131 9 1))) : ps_At (d + 1) 194 199 [(0, .ref 1131)] [] s Q :=
  ps_wp_at (stops := [(8, [0]), (58, [0]), (119, [0]), (156, [0, 2]), (199, [0]), (259, [0])]) (n := 28) h rfl

theorem pg_194_259 {d : Nat} {s : ps_S} {Q : Option Value → ps_S → Prop} (h :
  ps_Cl d 188 [.ref 1131, .int (ps_i s 1131 8)] s (ps_rI (fun v1 s1 =>
    ps_Cl d 190 [.int v1] s1 (ps_rI (fun v2 s2 =>
      (v2 = 0 →
        (4 < ((ps_i s2 1131 8) - (ps_i s2 1131 7)) →
          Q none (ps_ui s2 1131 9 1)) ∧
        (((ps_i s2 1131 8) - (ps_i s2 1131 7)) ≤ 4 →
          ps_Cl d 188 [.ref 1131, .int (ps_i s2 1131 8)] s2 (ps_rI (fun v3 s3 =>
            ps_Cl d 189 [.int v3] s3 (ps_rI (fun v4 s4 =>
              (v4 = 0 →
                Q none (ps_ui s4 1131 9 4)) ∧
              (v4 ≠ 0 →
                Q none (ps_ui s4 1131 9 1)))))))) ∧
      (v2 ≠ 0 →
        (4 ≤ ((ps_i s2 1131 8) - (ps_i s2 1131 7)) →
          ps_At (d + 1) 194 259 [(0, .ref 1131)] [] (ps_ui s2 1131 8 ((ps_i s2 1131 8) + 1)) Q) ∧
        (((ps_i s2 1131 8) - (ps_i s2 1131 7)) < 4 →
          ps_Cl d 188 [.ref 1131, .int (ps_i s2 1131 8)] s2 (ps_rI (fun v5 s5 =>
            ps_At (d + 1) 194 259 [(0, .ref 1131)] [] (ps_ui (ps_ui s5 1131 10 ((((10 : Int32) * (ps_i s2 1131 10)) + v5) - 48)) 1131 8 ((ps_i (ps_ui s5 1131 10 ((((10 : Int32) * (ps_i s2 1131 10)) + v5) - 48)) 1131 8) + 1)) Q))))))))) : ps_At (d + 1) 194 259 [(0, .ref 1131)] [] s Q :=
  ps_wp_at (stops := [(8, [0]), (58, [0]), (119, [0]), (156, [0, 2]), (199, [0]), (259, [0])]) (n := 70) h rfl

