set_option maxRecDepth 100000
-- ProofBenchModel.readLine()V
theorem pg_204_0 {d : Nat} {s : ps_S} {Q : Option Value → ps_S → Prop} (h :
  ps_Cl d 195 [.ref 1131, .long (7497068 : Int64)] s (ps_rI (fun v1 s1 =>
    ps_Cl d 195 [.ref 1131, .long (418632003437 : Int64)] s1 (ps_rI (fun v2 s2 =>
      ps_Cl d 203 [.ref 1131] s2 (ps_rI (fun v3 s3 =>
        (v3 = 0 →
          ps_At (d + 1) 204 27 [(0, .ref 1131), (1, .int v1), (2, .int v2)] [] s3 Q) ∧
        (v3 ≠ 0 →
          ps_Cl d 196 [.ref 1131] s3 (ps_rV (fun s4 =>
            ps_At (d + 1) 204 27 [(0, .ref 1131), (1, .int v1), (2, .int v2)] [] s4 Q)))))))))) : ps_At (d + 1) 204 0 [(0, .ref 1131)] [] s Q :=
  ps_wp_at (stops := [(27, [0, 1, 2]), (82, [0, 1, 2]), (91, [0, 1, 2]), (213, [0, 1, 3]), (271, [0, 1, 3]), (282, [0, 1, 3]), (360, [0])]) (n := 15) h rfl

