set_option maxRecDepth 100000
/-! the reference: a row that is made, whether it is one, kept; a term rewritten, again and again -/
-- ProofBenchModel.make(I)V
theorem pl_225_0 {n : Nat} {x1 : Int32} {s : ps_S} {Q : Option Value → ps_S → Prop} (h :
  (260 ≤ (ps_i s 1131 34) →
    Q none (ps_ui s 1131 34 ((ps_i s 1131 34) + 1))) ∧
  ((ps_i s 1131 34) < 260 →
    (pm_in (ps_i s 1131 34) 260 = true →
      Q none (ps_ui (ps_ua s 1149 (Int32.toNatClampNeg (ps_i s 1131 34)) x1) 1131 34 ((ps_i (ps_ua s 1149 (Int32.toNatClampNeg (ps_i s 1131 34)) x1) 1131 34) + 1))))) : pl_At (n + 1) 225 0 [(0, .ref 1131), (1, .int x1)] [] s Q :=
  pl_wp_at (stops := []) (f := 26) h rfl


-- ProofBenchModel.makeFrom(III)V
theorem pl_226_0 {n : Nat} {x1 : Int32} {x2 : Int32} {x3 : Int32} {s : ps_S} {Q : Option Value → ps_S → Prop} (h :
  pl_At n 226 3 [(0, .ref 1131), (1, .int x1), (3, .int x3), (4, .int x2)] [] s Q) : pl_At (n + 1) 226 0 [(0, .ref 1131), (1, .int x1), (2, .int x2), (3, .int x3)] [] s Q :=
  pl_wp_at (stops := [(3, [0, 1, 3, 4])]) (f := 4) h rfl


theorem pl_226_3 {n : Nat} {x1 : Int32} {x3 : Int32} {x4 : Int32} {s : ps_S} {Q : Option Value → ps_S → Prop} (h :
  (x3 ≤ x4 →
    Q none s) ∧
  (x4 < x3 →
    pl_Cl n 220 [.ref 1131, .int x1, .int x4] s (ps_rI (fun v1 s1 =>
      pl_Cl n 225 [.ref 1131, .int v1] s1 (ps_rV (fun s2 =>
        pl_At n 226 3 [(0, .ref 1131), (1, .int x1), (3, .int x3), (4, .int (x4 + 1))] [] s2 Q)))))) : pl_At (n + 1) 226 3 [(0, .ref 1131), (1, .int x1), (3, .int x3), (4, .int x4)] [] s Q :=
  pl_wp_at (stops := [(3, [0, 1, 3, 4])]) (f := 14) h rfl


-- ProofBenchModel.keepMade(I)V
theorem pl_229_0 {n : Nat} {x1 : Int32} {s : ps_S} {Q : Option Value → ps_S → Prop} (h :
  (pm_in x1 27400 = true →
    pl_At n 229 12 [(0, .ref 1131), (1, .int x1), (2, .int 0)] [] (ps_ua s 1134 (Int32.toNatClampNeg x1) (ps_i s 1131 34)) Q)) : pl_At (n + 1) 229 0 [(0, .ref 1131), (1, .int x1)] [] s Q :=
  pl_wp_at (stops := [(12, [0, 1, 2])]) (f := 10) h rfl


theorem pl_229_12 {n : Nat} {x1 : Int32} {x2 : Int32} {s : ps_S} {Q : Option Value → ps_S → Prop} (h :
  ((ps_i s 1131 34) ≤ x2 →
    Q none s) ∧
  (x2 < (ps_i s 1131 34) →
    (pm_in x2 260 = true →
      (pm_in ((x1 + 1) + x2) 27400 = true →
        pl_At n 229 12 [(0, .ref 1131), (1, .int x1), (2, .int (x2 + 1))] [] (ps_ua s 1134 (Int32.toNatClampNeg ((x1 + 1) + x2)) (ps_a s 1149 (Int32.toNatClampNeg x2))) Q)))) : pl_At (n + 1) 229 12 [(0, .ref 1131), (1, .int x1), (2, .int x2)] [] s Q :=
  pl_wp_at (stops := [(12, [0, 1, 2])]) (f := 21) h rfl

