/-! region lemmas, printed by genreg.py -/
set_option maxRecDepth 100000
-- ProofBenchModel.isWord(J)Z
theorem pg_195_0 {d : Nat} {l1 : Int64} {s : ps_S} {Q : Option Value → ps_S → Prop} (h :
  ((ps_i s 1131 9) ≠ 3 →
    Q (some (.int 0)) s) ∧
  ((ps_i s 1131 9) = 3 →
    ((lg_cmp (ps_j s 1131 11) l1) ≠ 0 →
      Q (some (.int 0)) s) ∧
    ((lg_cmp (ps_j s 1131 11) l1) = 0 →
      Q (some (.int 1)) s))) : ps_At d 195 0 [(0, .ref 1131), (1, .long l1)] [] s Q :=
  ps_wp_at (stops := []) (n := 18) h rfl

-- ProofBenchModel.misplaced()V
theorem pg_196_0 {d : Nat} {s : ps_S} {Q : Option Value → ps_S → Prop} (h :
  ((ps_i s 1131 9) ≠ 1 →
    ps_Cl d 191 [.ref 1131, .int 2, .int (ps_i s 1131 7)] s (ps_rV (fun s1 =>
      Q none s1))) ∧
  ((ps_i s 1131 9) = 1 →
    ps_Cl d 191 [.ref 1131, .int 1, .int (ps_i s 1131 7)] s (ps_rV (fun s2 =>
      Q none s2)))) : ps_At (d + 1) 196 0 [(0, .ref 1131)] [] s Q :=
  ps_wp_at (stops := []) (n := 18) h rfl

-- ProofBenchModel.must(Z)V
theorem pg_197_0 {d : Nat} {x1 : Int32} {s : ps_S} {Q : Option Value → ps_S → Prop} (h :
  ps_Cl d 192 [.ref 1131] s (ps_rI (fun v1 s1 =>
    (v1 ≠ 0 →
      (x1 = 0 →
        ps_Cl d 196 [.ref 1131] s1 (ps_rV (fun s2 =>
          Q none s2))) ∧
      (x1 ≠ 0 →
        ps_Cl d 194 [.ref 1131] s1 (ps_rV (fun s3 =>
          Q none s3)))) ∧
    (v1 = 0 →
      Q none s1)))) : ps_At (d + 1) 197 0 [(0, .ref 1131), (1, .int x1)] [] s Q :=
  ps_wp_at (stops := []) (n := 15) h rfl

-- ProofBenchModel.beginText()V
theorem pg_198_0 {d : Nat} {s : ps_S} {Q : Option Value → ps_S → Prop} (h :
  ps_At (d + 1) 198 20 [(0, .ref 1131), (1, .int 0)] [] (ps_ui (ps_ui (ps_ui s 1131 5 0) 1131 6 (-1)) 1131 4 (ps_i (ps_ui (ps_ui s 1131 5 0) 1131 6 (-1)) 1131 3)) Q) : ps_At (d + 1) 198 0 [(0, .ref 1131)] [] s Q :=
  ps_wp_at (stops := [(20, [0, 1])]) (n := 14) h rfl

theorem pg_198_20 {d : Nat} {x1 : Int32} {s : ps_S} {Q : Option Value → ps_S → Prop} (h :
  ((ps_i s 1131 4) ≤ x1 →
    ps_Cl d 194 [.ref 1131] (ps_ui (ps_ui (ps_ui (ps_ui s 1131 3 0) 1131 8 0) 1131 23 0) 1131 22 (ps_i (ps_ui (ps_ui (ps_ui s 1131 3 0) 1131 8 0) 1131 23 0) 1131 21)) (ps_rV (fun s1 =>
      Q none s1))) ∧
  (x1 < (ps_i s 1131 4) →
    ps_nd (pm_in x1 1620) (ps_nd (pm_in x1 1600) (ps_At (d + 1) 198 20 [(0, .ref 1131), (1, .int (x1 + 1))] [] (ps_ua s 1133 (Int32.toNatClampNeg x1) (Int8.toInt32 (Int32.toInt8 (ps_a s 1132 (Int32.toNatClampNeg x1))))) Q)))) : ps_At (d + 1) 198 20 [(0, .ref 1131), (1, .int x1)] [] s Q :=
  ps_wp_at (stops := [(20, [0, 1])]) (n := 32) h rfl

-- ProofBenchModel.fault(I)I
theorem pg_199_0 {d : Nat} {x1 : Int32} {s : ps_S} {Q : Option Value → ps_S → Prop} (h :
  (x1 ≠ 0 →
    (x1 ≠ 1 →
      Q (some (.int (-1))) s) ∧
    (x1 = 1 →
      Q (some (.int (ps_i s 1131 6))) s)) ∧
  (x1 = 0 →
    Q (some (.int (ps_i s 1131 5))) s)) : ps_At d 199 0 [(0, .ref 1131), (1, .int x1)] [] s Q :=
  ps_wp_at (stops := []) (n := 17) h rfl
