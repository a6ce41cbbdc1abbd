set_option maxRecDepth 100000
/-! the reference: general, special, exist, open, same, replace -/
-- ProofBenchModel.takesOpen(I)V
theorem pl_258_0 {n : Nat} {x1 : Int32} {s : ps_S} {Q : Option Value → ps_S → Prop} (h :
  pl_Cl n 244 [.ref 1131, .int x1] s (ps_rI (fun v1 s1 =>
    pl_Cl n 247 [.ref 1131, .int v1] s1 (ps_rI (fun v2 s2 =>
      (v2 = 5 →
        (pm_in x1 40 = true →
          pl_Cl n 223 [.ref 1131, .int v1, .int (ps_a s2 1156 (Int32.toNatClampNeg x1))] s2 (ps_rI (fun v3 s3 =>
            (v3 ≠ 0 →
              pl_At n 258 53 [(0, .ref 1131), (1, .int x1), (2, .int v1)] [] s3 Q) ∧
            (v3 = 0 →
              pl_Cl n 245 [.ref 1131, .int x1] s3 (ps_rI (fun v4 s4 =>
                (pm_in x1 40 = true →
                  pl_Cl n 223 [.ref 1131, .int v4, .int (ps_a s4 1156 (Int32.toNatClampNeg x1))] s4 (ps_rI (fun v5 s5 =>
                    (v5 = 0 →
                      pl_At n 258 58 [(0, .ref 1131), (1, .int x1), (2, .int v1)] [] s5 Q) ∧
                    (v5 ≠ 0 →
                      pl_At n 258 53 [(0, .ref 1131), (1, .int x1), (2, .int v1)] [] s5 Q))))))))))) ∧
      (v2 ≠ 5 →
        pl_Cl n 241 [.ref 1131, .int 2] s2 (ps_rV (fun s6 =>
          Q none s6)))))))) : pl_At (n + 1) 258 0 [(0, .ref 1131), (1, .int x1)] [] s Q :=
  pl_wp_at (stops := [(53, [0, 1, 2]), (58, [0, 1, 2]), (72, [0, 1, 3])]) (f := 33) h rfl


theorem pl_258_53 {n : Nat} {x1 : Int32} {x2 : Int32} {s : ps_S} {Q : Option Value → ps_S → Prop} (h :
  pl_Cl n 241 [.ref 1131, .int 3] s (ps_rV (fun s1 =>
    pl_At n 258 58 [(0, .ref 1131), (1, .int x1), (2, .int x2)] [] s1 Q))) : pl_At (n + 1) 258 53 [(0, .ref 1131), (1, .int x1), (2, .int x2)] [] s Q :=
  pl_wp_at (stops := [(53, [0, 1, 2]), (58, [0, 1, 2]), (72, [0, 1, 3])]) (f := 5) h rfl


theorem pl_258_58 {n : Nat} {x1 : Int32} {x2 : Int32} {s : ps_S} {Q : Option Value → ps_S → Prop} (h :
  (pm_in x1 40 = true →
    pl_Cl n 231 [.ref 1131, .int x2, .int (-1), .int (ps_a s 1156 (Int32.toNatClampNeg x1))] s (ps_rV (fun s1 =>
      pl_At n 258 72 [(0, .ref 1131), (1, .int x1), (3, .int 0)] [] s1 Q)))) : pl_At (n + 1) 258 58 [(0, .ref 1131), (1, .int x1), (2, .int x2)] [] s Q :=
  pl_wp_at (stops := [(53, [0, 1, 2]), (58, [0, 1, 2]), (72, [0, 1, 3])]) (f := 12) h rfl

