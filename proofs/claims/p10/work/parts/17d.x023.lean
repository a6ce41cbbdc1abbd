set_option maxRecDepth 100000
-- ProofBench$Tokens.advance()V
theorem pg_140_0 {d : Nat} {r0 : Nat} {s : ps_S} {Q : Option Value → ps_S → Prop} (h :
  ps_nk (ps_is r0 10) (ps_At (d + 1) 140 5 [(0, .ref r0), (1, .int (ps_i s r0 3))] [] s Q)) : ps_At (d + 1) 140 0 [(0, .ref r0)] [] s Q :=
  ps_wp_at (stops := [(5, [0, 1]), (30, [0, 1])]) (n := 5) h rfl


theorem pg_140_5 {d : Nat} {r0 : Nat} {x1 : Int32} {s : ps_S} {Q : Option Value → ps_S → Prop} (h :
  ps_nk (ps_is r0 10) (((ps_i s r0 2) ≤ x1 →
    ps_At (d + 1) 140 30 [(0, .ref r0), (1, .int x1)] [] s Q) ∧
  (x1 < (ps_i s r0 2) →
    ps_nk (ps_is r0 10) (ps_Cl d 143 [.ref r0, .int x1] s (ps_rI (fun v1 s1 =>
      ps_Cl d 145 [.int v1] s1 (ps_rI (fun v2 s2 =>
        (v2 = 0 →
          ps_At (d + 1) 140 30 [(0, .ref r0), (1, .int x1)] [] s2 Q) ∧
        (v2 ≠ 0 →
          ps_At (d + 1) 140 5 [(0, .ref r0), (1, .int (x1 + 1))] [] s2 Q))))))))) : ps_At (d + 1) 140 5 [(0, .ref r0), (1, .int x1)] [] s Q :=
  ps_wp_at (stops := [(5, [0, 1]), (30, [0, 1])]) (n := 13) h rfl


theorem pg_140_30 {d : Nat} {r0 : Nat} {x1 : Int32} {s : ps_S} {Q : Option Value → ps_S → Prop} (h :
  ps_nk (ps_is r0 10) (ps_nk (ps_is r0 10) (ps_nk (ps_is r0 10) (ps_Cl d 143 [.ref r0, .int x1] (ps_ui (ps_ui s r0 5 x1) r0 6 (-1)) (ps_rI (fun v1 s1 =>
    ps_nk (ps_is r0 10) ((x1 < (ps_i s1 r0 2) →
      ps_Cl d 146 [.int v1] s1 (ps_rI (fun v2 s2 =>
        (v2 = 0 →
          ps_Cl d 147 [.int v1] s2 (ps_rI (fun v3 s3 =>
            (v3 = 0 →
              (v1 ≠ 59 →
                ps_nk (ps_is r0 10) (ps_nk (ps_is r0 10) (Q none (ps_ui (ps_ui s3 r0 4 1) r0 3 (x1 + 1))))) ∧
              (v1 = 59 →
                ps_nk (ps_is r0 10) (ps_nk (ps_is r0 10) (Q none (ps_ui (ps_ui s3 r0 4 5) r0 3 (x1 + 1)))))) ∧
            (v3 ≠ 0 →
              ps_nk (ps_is r0 10) (ps_Cl d 142 [.ref r0] s3 (ps_rV (fun s4 =>
                Q none s4))))))) ∧
        (v2 ≠ 0 →
          ps_nk (ps_is r0 10) (ps_Cl d 141 [.ref r0] s2 (ps_rV (fun s5 =>
            Q none s5))))))) ∧
    ((ps_i s1 r0 2) ≤ x1 →
      ps_nk (ps_is r0 10) (ps_nk (ps_is r0 10) (Q none (ps_ui (ps_ui s1 r0 4 0) r0 3 x1))))))))))) : ps_At (d + 1) 140 30 [(0, .ref r0), (1, .int x1)] [] s Q :=
  ps_wp_at (stops := [(5, [0, 1]), (30, [0, 1])]) (n := 59) h rfl

