set_option maxRecDepth 100000
theorem pg_197_0 {d : Nat} {x1 : Int32} {s : ps_S} {Q : Option Value → ps_S → Prop} (h :
  ps_Cl d 192 [.ref 1131] s (ps_rI (fun v1 s1 =>
    (v1 ≠ 0 →
      (x1 = 0 →
        ps_Cl d 196 [.ref 1131] s1 (ps_rV (fun s2 =>
          Q none s2))) ∧
      (x1 ≠ 0 →
        ps_Cl d 194 [.ref 1131] s1 (ps_rV (fun s3 =>
          Q none s3)))) ∧
    (v1 = 0 →
      Q none s1)))) : ps_At (d + 1) 197 0 [(0, .ref 1131), (1, .int x1)] [] s Q :=
  ps_wp_at (stops := []) (n := 15) h rfl

