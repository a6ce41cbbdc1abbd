set_option maxRecDepth 100000
theorem pg_194_0 {d : Nat} {s : ps_S} {Q : Option Value → ps_S → Prop} (h :
  ps_At (d + 1) 194 8 [(0, .ref 1131)] [] (ps_ui s 1131 7 (ps_i s 1131 8)) Q) : ps_At (d + 1) 194 0 [(0, .ref 1131)] [] s Q :=
  ps_wp_at (stops := [(8, [0]), (58, [0]), (119, [0]), (156, [0, 2]), (199, [0]), (259, [0])]) (n := 6) h rfl

theorem pg_194_8 {d : Nat} {s : ps_S} {Q : Option Value → ps_S → Prop} (h :
  ((ps_i s 1131 4) ≤ (ps_i s 1131 7) →
    ps_At (d + 1) 194 58 [(0, .ref 1131)] [] s Q) ∧
  ((ps_i s 1131 7) < (ps_i s 1131 4) →
    ps_Cl d 188 [.ref 1131, .int (ps_i s 1131 7)] s (ps_rI (fun v1 s1 =>
      (v1 = 32 →
        ps_At (d + 1) 194 8 [(0, .ref 1131)] [] (ps_ui s1 1131 7 ((ps_i s1 1131 7) + 1)) Q) ∧
      (v1 ≠ 32 →
        ps_Cl d 188 [.ref 1131, .int (ps_i s1 1131 7)] s1 (ps_rI (fun v2 s2 =>
          (v2 ≠ 10 →
            ps_At (d + 1) 194 58 [(0, .ref 1131)] [] s2 Q) ∧
          (v2 = 10 →
            ps_At (d + 1) 194 8 [(0, .ref 1131)] [] (ps_ui s2 1131 7 ((ps_i s2 1131 7) + 1)) Q)))))))) : ps_At (d + 1) 194 8 [(0, .ref 1131)] [] s Q :=
  ps_wp_at (stops := [(8, [0]), (58, [0]), (119, [0]), (156, [0, 2]), (199, [0]), (259, [0])]) (n := 33) h rfl

theorem pg_194_58 {d : Nat} {s : ps_S} {Q : Option Value → ps_S → Prop} (h :
  ps_Cl d 188 [.ref 1131, .int (ps_i s 1131 7)] s (ps_rI (fun v1 s1 =>
    ((ps_i (ps_ui s1 1131 8 ((ps_i s1 1131 7) + 1)) 1131 7) < (ps_i (ps_ui s1 1131 8 ((ps_i s1 1131 7) + 1)) 1131 4) →
      ps_Cl d 189 [.int v1] (ps_ui s1 1131 8 ((ps_i s1 1131 7) + 1)) (ps_rI (fun v2 s2 =>
        (v2 = 0 →
          ps_Cl d 190 [.int v1] s2 (ps_rI (fun v3 s3 =>
            (v3 = 0 →
              (v1 ≠ 59 →
                Q none (ps_ui s3 1131 9 1)) ∧
              (v1 = 59 →
                Q none (ps_ui s3 1131 9 5))) ∧
            (v3 ≠ 0 →
              ps_At (d + 1) 194 259 [(0, .ref 1131)] [] (ps_ui (ps_ui s3 1131 10 0) 1131 8 (ps_i (ps_ui s3 1131 10 0) 1131 7)) Q)))) ∧
        (v2 ≠ 0 →
          ps_At (d + 1) 194 119 [(0, .ref 1131)] [] s2 Q)))) ∧
    ((ps_i (ps_ui s1 1131 8 ((ps_i s1 1131 7) + 1)) 1131 4) ≤ (ps_i (ps_ui s1 1131 8 ((ps_i s1 1131 7) + 1)) 1131 7) →
      Q none (ps_ui (ps_ui (ps_ui (ps_ui s1 1131 8 ((ps_i s1 1131 7) + 1)) 1131 9 0) 1131 7 (ps_i (ps_ui (ps_ui s1 1131 8 ((ps_i s1 1131 7) + 1)) 1131 9 0) 1131 4)) 1131 8 (ps_i (ps_ui (ps_ui (ps_ui s1 1131 8 ((ps_i s1 1131 7) + 1)) 1131 9 0) 1131 7 (ps_i (ps_ui (ps_ui s1 1131 8 ((ps_i s1 1131 7) + 1)) 1131 9 0) 1131 4)) 1131 4)))))) : ps_At (d + 1) 194 58 [(0, .ref 1131)] [] s Q :=
  ps_wp_at (stops := [(8, [0]), (58, [0]), (119, [0]), (156, [0, 2]), (199, [0]), (259, [0])]) (n := 55) h rfl

theorem pg_194_119 {d : Nat} {s : ps_S} {Q : Option Value → ps_S → Prop} (h :
  ps_Cl d 188 [.ref 1131, .int (ps_i s 1131 8)] s (ps_rI (fun v1 s1 =>
    ps_Cl d 189 [.int v1] s1 (ps_rI (fun v2 s2 =>
      (v2 = 0 →
        ps_At (d + 1) 194 156 [(0, .ref 1131), (2, .int (ps_i (ps_uj s2 1131 11 0) 1131 7))] [] (ps_uj s2 1131 11 0) Q) ∧
      (v2 ≠ 0 →
        ps_At (d + 1) 194 119 [(0, .ref 1131)] [] (ps_ui s2 1131 8 ((ps_i s2 1131 8) + 1)) Q)))))) : ps_At (d + 1) 194 119 [(0, .ref 1131)] [] s Q :=
  ps_wp_at (stops := [(8, [0]), (58, [0]), (119, [0]), (156, [0, 2]), (199, [0]), (259, [0])]) (n := 21) h rfl

theorem pg_194_156 {d : Nat} {x2 : Int32} {s : ps_S} {Q : Option Value → ps_S → Prop} (h :
  ((ps_i s 1131 8) ≤ x2 →
    ps_At (d + 1) 194 199 [(0, .ref 1131)] [] s Q) ∧
  (x2 < (ps_i s 1131 8) →
    (((ps_i s 1131 7) + 8) ≤ x2 →
      ps_At (d + 1) 194 199 [(0, .ref 1131)] [] s Q) ∧
    (x2 < ((ps_i s 1131 7) + 8) →
      ps_Cl d 188 [.ref 1131, .int x2] s (ps_rI (fun v1 s1 =>
        ps_At (d + 1) 194 156 [(0, .ref 1131), (2, .int (x2 + 1))] [] (ps_uj s1 1131 11 (((ps_j s 1131 11) <<< (Int32.toInt64 (8 : Int32) &&& 63)) ||| (Int32.toInt64 v1))) Q))))) : ps_At (d + 1) 194 156 [(0, .ref 1131), (2, .int x2)] [] s Q :=
  ps_wp_at (stops := [(8, [0]), (58, [0]), (119, [0]), (156, [0, 2]), (199, [0]), (259, [0])]) (n := 25) h rfl

