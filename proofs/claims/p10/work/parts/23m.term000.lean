set_option maxRecDepth 100000
-- ProofBenchModel.beginsTerm(I)V
theorem pg_215_0 {d : Nat} {x1 : Int32} {s : ps_S} {Q : Option Value → ps_S → Prop} (h :
  ((ps_i s 1131 9) ≠ 2 →
    ps_At (d + 1) 215 19 [(0, .ref 1131), (1, .int x1)] [] s Q) ∧
  ((ps_i s 1131 9) = 2 →
    ps_Cl d 206 [.ref 1131] s (ps_rI (fun v1 s1 =>
      (0 ≤ v1 →
        ps_At (d + 1) 215 19 [(0, .ref 1131), (1, .int x1)] [] s1 Q) ∧
      (v1 < 0 →
        ((1 : Int32) = 0 →
          ps_At (d + 1) 215 45 [(0, .ref 1131), (1, .int x1)] [] s1 Q) ∧
        ((1 : Int32) ≠ 0 →
          (40 < ((ps_i s1 1131 31) + 1) →
            ps_At (d + 1) 215 45 [(0, .ref 1131), (1, .int x1)] [] s1 Q) ∧
          (((ps_i s1 1131 31) + 1) ≤ 40 →
            ((ps_i s1 1131 29) ≤ 12 →
              ps_At (d + 1) 215 49 [(0, .ref 1131), (1, .int x1)] [] s1 Q) ∧
            (12 < (ps_i s1 1131 29) →
              ps_At (d + 1) 215 45 [(0, .ref 1131), (1, .int x1)] [] s1 Q)))))))) : ps_At (d + 1) 215 0 [(0, .ref 1131), (1, .int x1)] [] s Q :=
  ps_wp_at (stops := [(19, [0, 1]), (45, [0, 1]), (49, [0, 1])]) (n := 24) h rfl


theorem pg_215_19 {d : Nat} {x1 : Int32} {s : ps_S} {Q : Option Value → ps_S → Prop} (h :
  ((0 : Int32) = 0 →
    ps_At (d + 1) 215 45 [(0, .ref 1131), (1, .int x1)] [] s Q) ∧
  ((0 : Int32) ≠ 0 →
    (40 < ((ps_i s 1131 31) + 1) →
      ps_At (d + 1) 215 45 [(0, .ref 1131), (1, .int x1)] [] s Q) ∧
    (((ps_i s 1131 31) + 1) ≤ 40 →
      ((ps_i s 1131 29) ≤ 12 →
        ps_At (d + 1) 215 49 [(0, .ref 1131), (1, .int x1)] [] s Q) ∧
      (12 < (ps_i s 1131 29) →
        ps_At (d + 1) 215 45 [(0, .ref 1131), (1, .int x1)] [] s Q)))) : ps_At (d + 1) 215 19 [(0, .ref 1131), (1, .int x1)] [] s Q :=
  ps_wp_at (stops := [(19, [0, 1]), (45, [0, 1]), (49, [0, 1])]) (n := 16) h rfl


theorem pg_215_45 {d : Nat} {x1 : Int32} {s : ps_S} {Q : Option Value → ps_S → Prop} (h :
  ps_Cl d 196 [.ref 1131] s (ps_rV (fun s1 =>
    ps_At (d + 1) 215 49 [(0, .ref 1131), (1, .int x1)] [] s1 Q))) : ps_At (d + 1) 215 45 [(0, .ref 1131), (1, .int x1)] [] s Q :=
  ps_wp_at (stops := [(19, [0, 1]), (45, [0, 1]), (49, [0, 1])]) (n := 4) h rfl

