set_option maxRecDepth 100000
/-! the reference's tokens -/
-- ProofBenchModel.sign(I)I
theorem pl_188_0 {n : Nat} {x1 : Int32} {s : ps_S} {Q : Option Value → ps_S → Prop} (h :
  ((ps_i s 1131 4) ≤ x1 →
    Q (some (.int 0)) s) ∧
  (x1 < (ps_i s 1131 4) →
    (pm_in x1 1600 = true →
      Q (some (.int ((ps_a s 1133 (Int32.toNatClampNeg x1)) &&& 255))) s))) : pl_At (n + 1) 188 0 [(0, .ref 1131), (1, .int x1)] [] s Q :=
  pl_wp_at (stops := []) (f := 16) h rfl

-- ProofBenchModel.isLetter(I)Z
theorem pl_189_0 {n : Nat} {x0 : Int32} {s : ps_S} {Q : Option Value → ps_S → Prop} (h :
  (x0 < 97 →
    Q (some (.int 0)) s) ∧
  (97 ≤ x0 →
    (122 < x0 →
      Q (some (.int 0)) s) ∧
    (x0 ≤ 122 →
      Q (some (.int 1)) s))) : pl_At (n + 1) 189 0 [(0, .int x0)] [] s Q :=
  pl_wp_at (stops := []) (f := 15) h rfl

-- ProofBenchModel.isDigit(I)Z
theorem pl_190_0 {n : Nat} {x0 : Int32} {s : ps_S} {Q : Option Value → ps_S → Prop} (h :
  (x0 < 48 →
    Q (some (.int 0)) s) ∧
  (48 ≤ x0 →
    (57 < x0 →
      Q (some (.int 0)) s) ∧
    (x0 ≤ 57 →
      Q (some (.int 1)) s))) : pl_At (n + 1) 190 0 [(0, .int x0)] [] s Q :=
  pl_wp_at (stops := []) (f := 15) h rfl

-- ProofBenchModel.isKept(J)Z
