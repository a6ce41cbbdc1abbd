set_option maxRecDepth 100000
/-! the class: a step is made, less its premises' assumptions -/
-- ProofBench$Shelf.has(I)Z
theorem pl_109_0 {n : Nat} {r0 : Nat} {x1 : Int32} {s : ps_S} {Q : Option Value → ps_S → Prop} (h :
  (x1 < 0 →
    Q (some (.int 0)) s) ∧
  (0 ≤ x1 →
    pl_nk (ps_is r0 7) (((ps_i s r0 5) ≤ x1 →
      Q (some (.int 0)) s) ∧
    (x1 < (ps_i s r0 5) →
      Q (some (.int 1)) s)))) : pl_At (n + 1) 109 0 [(0, .ref r0), (1, .int x1)] [] s Q :=
  pl_wp_at (stops := []) (f := 15) h rfl


-- ProofBench$Shelf.rowAt(I)LProofBench$Row;
theorem pl_110_0 {n : Nat} {r0 : Nat} {x1 : Int32} {s : ps_S} {Q : Option Value → ps_S → Prop} (h :
  (x1 < 0 →
    pl_nk (ps_is r0 7) (Q (some (.ref (ps_c0 r0 1))) s)) ∧
  (0 ≤ x1 →
    pl_nk (ps_is r0 7) (pl_nk (Nat.beq (ps_K (ps_c0 r0 0)).1 0) (((nI (ps_ln (ps_c0 r0 0))) ≤ x1 →
      pl_nk (ps_is r0 7) (Q (some (.ref (ps_c0 r0 1))) s)) ∧
    (x1 < (nI (ps_ln (ps_c0 r0 0))) →
      pl_nk (ps_is r0 7) (pl_nk (ps_ar (ps_c0 r0 0) 4 || ps_ar (ps_c0 r0 0) 5 || ps_ar (ps_c0 r0 0) 6 || ps_ar (ps_c0 r0 0) 7) ((pm_in x1 (ps_ln (ps_c0 r0 0)) = true →
        Q (some (.ref (ps_e0 (ps_c0 r0 0) (Int32.toNatClampNeg x1)))) s)))))))) : pl_At (n + 1) 110 0 [(0, .ref r0), (1, .int x1)] [] s Q :=
  pl_wp_at (stops := []) (f := 21) h rfl


-- ProofBench$Proof.assumes(LProofBench$Step;LProofBench$Row;)Z
theorem pl_40_0 {n : Nat} {r0 : Nat} {r1 : Nat} {r2 : Nat} {s : ps_S} {Q : Option Value → ps_S → Prop} (h :
  pl_At n 40 2 [(0, .ref r0), (1, .ref r1), (2, .ref r2), (3, .int 0)] [] s Q) : pl_At (n + 1) 40 0 [(0, .ref r0), (1, .ref r1), (2, .ref r2)] [] s Q :=
  pl_wp_at (stops := [(2, [0, 1, 2, 3])]) (f := 4) h rfl


theorem pl_40_2 {n : Nat} {r0 : Nat} {r1 : Nat} {r2 : Nat} {x3 : Int32} {s : ps_S} {Q : Option Value → ps_S → Prop} (h :
  pl_nk (ps_is r1 8) (((ps_i s r1 8) ≤ x3 →
    Q (some (.int 0)) s) ∧
  (x3 < (ps_i s r1 8) →
    pl_Cl n 122 [.ref r1, .int x3] s (ps_rI (fun v1 s1 =>
      pl_Cl n 33 [.ref r0, .int v1] s1 (ps_rA (fun v2 s2 =>
        pl_nk (ps_is v2 8) (pl_Cl n 98 [.ref (ps_c0 v2 6), .ref r2] s2 (ps_rI (fun v3 s3 =>
          (v3 = 0 →
            pl_At n 40 2 [(0, .ref r0), (1, .ref r1), (2, .ref r2), (3, .int (x3 + 1))] [] s3 Q) ∧
          (v3 ≠ 0 →
            Q (some (.int 1)) s3))))))))))) : pl_At (n + 1) 40 2 [(0, .ref r0), (1, .ref r1), (2, .ref r2), (3, .int x3)] [] s Q :=
  pl_wp_at (stops := [(2, [0, 1, 2, 3])]) (f := 21) h rfl


-- ProofBench$Proof.gather(LProofBench$Step;LProofBench$Step;LProofBench$Row;)V
theorem pl_39_0 {n : Nat} {r0 : Nat} {r1 : Nat} {r2 : Nat} {r3 : Nat} {s : ps_S} {Q : Option Value → ps_S → Prop} (h :
  pl_At n 39 3 [(0, .ref r0), (1, .ref r1), (2, .ref r2), (3, .ref r3), (4, .int 0)] [] s Q) : pl_At (n + 1) 39 0 [(0, .ref r0), (1, .ref r1), (2, .ref r2), (3, .ref r3)] [] s Q :=
  pl_wp_at (stops := [(3, [0, 1, 2, 3, 4])]) (f := 4) h rfl

