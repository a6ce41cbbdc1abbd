set_option maxRecDepth 100000
theorem pl_39_3 {n : Nat} {r0 : Nat} {r1 : Nat} {r2 : Nat} {r3 : Nat} {x4 : Int32} {s : ps_S} {Q : Option Value → ps_S → Prop} (h :
  pl_nk (ps_is r2 8) (((ps_i s r2 8) ≤ x4 →
    Q none s) ∧
  (x4 < (ps_i s r2 8) →
    pl_Cl n 122 [.ref r2, .int x4] s (ps_rI (fun v1 s1 =>
      pl_Cl n 33 [.ref r0, .int v1] s1 (ps_rA (fun v2 s2 =>
        pl_nk (ps_is v2 8) (pl_Cl n 98 [.ref (ps_c0 v2 6), .ref r3] s2 (ps_rI (fun v3 s3 =>
          (v3 ≠ 0 →
            pl_At n 39 3 [(0, .ref r0), (1, .ref r1), (2, .ref r2), (3, .ref r3), (4, .int (x4 + 1))] [] s3 Q) ∧
          (v3 = 0 →
            pl_Cl n 40 [.ref r0, .ref r1, .ref (ps_c0 v2 6)] s3 (ps_rI (fun v4 s4 =>
              (v4 ≠ 0 →
                pl_At n 39 3 [(0, .ref r0), (1, .ref r1), (2, .ref r2), (3, .ref r3), (4, .int (x4 + 1))] [] s4 Q) ∧
              (v4 = 0 →
                pl_Cl n 123 [.ref r1, .int v1] s4 (ps_rV (fun s5 =>
                  pl_At n 39 3 [(0, .ref r0), (1, .ref r1), (2, .ref r2), (3, .ref r3), (4, .int (x4 + 1))] [] s5 Q)))))))))))))))) : pl_At (n + 1) 39 3 [(0, .ref r0), (1, .ref r1), (2, .ref r2), (3, .ref r3), (4, .int x4)] [] s Q :=
  pl_wp_at (stops := [(3, [0, 1, 2, 3, 4])]) (f := 34) h rfl


-- ProofBench$Proof.hasPremises(LProofBench$Step;ILProofBench$Shelf;)Z
theorem pl_36_0 {n : Nat} {r0 : Nat} {r1 : Nat} {x2 : Int32} {r3 : Nat} {s : ps_S} {Q : Option Value → ps_S → Prop} (h :
  pl_nk (ps_is r1 8) (((ps_i s r1 0) ≠ 12 →
    pl_At n 36 22 [(1, .ref r1), (2, .int x2), (4, .int 0)] [] s Q) ∧
  ((ps_i s r1 0) = 12 →
    pl_Cl n 121 [.ref r1, .int 0] s (ps_rI (fun v1 s1 =>
      pl_Cl n 109 [.ref r3, .int v1] s1 (ps_rI (fun v2 s2 =>
        pl_nk (decide (v2 &&& 1 = v2)) (Q (some (.int v2)) s2)))))))) : pl_At (n + 1) 36 0 [(0, .ref r0), (1, .ref r1), (2, .int x2), (3, .ref r3)] [] s Q :=
  pl_wp_at (stops := [(22, [1, 2, 4])]) (f := 14) h rfl


theorem pl_36_22 {n : Nat} {r1 : Nat} {x2 : Int32} {x4 : Int32} {s : ps_S} {Q : Option Value → ps_S → Prop} (h :
  pl_nk (ps_is r1 8) (pl_Cl n 116 [.int (ps_i s r1 0)] s (ps_rI (fun v1 s1 =>
    (v1 ≤ x4 →
      Q (some (.int 1)) s1) ∧
    (x4 < v1 →
      pl_Cl n 121 [.ref r1, .int x4] s1 (ps_rI (fun v2 s2 =>
        (v2 < x2 →
          pl_At n 36 22 [(1, .ref r1), (2, .int x2), (4, .int (x4 + 1))] [] s2 Q) ∧
        (x2 ≤ v2 →
          Q (some (.int 0)) s2)))))))) : pl_At (n + 1) 36 22 [(1, .ref r1), (2, .int x2), (4, .int x4)] [] s Q :=
  pl_wp_at (stops := [(22, [1, 2, 4])]) (f := 18) h rfl


-- ProofBench$Proof.isFreeInAssumed(LProofBench$Step;ILProofBench$Row;)Z
theorem pl_51_0 {n : Nat} {r0 : Nat} {r1 : Nat} {x2 : Int32} {r3 : Nat} {s : ps_S} {Q : Option Value → ps_S → Prop} (h :
  pl_At n 51 3 [(0, .ref r0), (1, .ref r1), (2, .int x2), (3, .ref r3), (4, .int 0)] [] s Q) : pl_At (n + 1) 51 0 [(0, .ref r0), (1, .ref r1), (2, .int x2), (3, .ref r3)] [] s Q :=
  pl_wp_at (stops := [(3, [0, 1, 2, 3, 4])]) (f := 4) h rfl


theorem pl_51_3 {n : Nat} {r0 : Nat} {r1 : Nat} {x2 : Int32} {r3 : Nat} {x4 : Int32} {s : ps_S} {Q : Option Value → ps_S → Prop} (h :
  pl_nk (ps_is r1 8) (((ps_i s r1 8) ≤ x4 →
    Q (some (.int 0)) s) ∧
  (x4 < (ps_i s r1 8) →
    pl_Cl n 122 [.ref r1, .int x4] s (ps_rI (fun v1 s1 =>
      pl_Cl n 33 [.ref r0, .int v1] s1 (ps_rA (fun v2 s2 =>
        pl_nk (ps_is v2 8) (pl_Cl n 98 [.ref (ps_c0 v2 6), .ref r3] s2 (ps_rI (fun v3 s3 =>
          (v3 ≠ 0 →
            pl_At n 51 3 [(0, .ref r0), (1, .ref r1), (2, .int x2), (3, .ref r3), (4, .int (x4 + 1))] [] s3 Q) ∧
          (v3 = 0 →
            pl_Cl n 100 [.ref (ps_c0 v2 6), .int x2] s3 (ps_rI (fun v4 s4 =>
              (v4 = 0 →
                pl_At n 51 3 [(0, .ref r0), (1, .ref r1), (2, .int x2), (3, .ref r3), (4, .int (x4 + 1))] [] s4 Q) ∧
              (v4 ≠ 0 →
                Q (some (.int 1)) s4)))))))))))))) : pl_At (n + 1) 51 3 [(0, .ref r0), (1, .ref r1), (2, .int x2), (3, .ref r3), (4, .int x4)] [] s Q :=
  pl_wp_at (stops := [(3, [0, 1, 2, 3, 4])]) (f := 29) h rfl

