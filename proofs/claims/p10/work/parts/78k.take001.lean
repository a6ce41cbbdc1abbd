set_option maxRecDepth 100000
-- ProofBench$Proof.isTooMuch(LProofBench$Step;)Z
theorem pl_41_0 {n : Nat} {r0 : Nat} {r1 : Nat} {s : ps_S} {Q : Option Value → ps_S → Prop} (h :
  pl_nk (ps_is r1 8) (pl_nk (ps_is (ps_c0 r1 6) 5) (((ps_i s (ps_c0 r1 6) 2) ≠ 0 →
    Q (some (.int 1)) s) ∧
  ((ps_i s (ps_c0 r1 6) 2) = 0 →
    pl_nk (ps_is r1 8) (((ps_i s r1 9) = 0 →
      pl_nk (ps_is r0 2) (pl_nk (ps_is r1 8) (pl_nk (ps_is r0 2) (pl_Cl n 103 [.ref (ps_c0 r0 5), .ref (ps_c0 r1 6), .ref (ps_r s r0 6)] s (ps_rV (fun s1 =>
        pl_nk (ps_is r0 2) (pl_Cl n 106 [.ref (ps_c0 r0 5)] s1 (ps_rI (fun v2 s2 =>
          pl_nk (decide (v2 &&& 1 = v2)) (Q (some (.int v2)) s2)))))))))) ∧
    ((ps_i s r1 9) ≠ 0 →
      Q (some (.int 1)) s)))))) : pl_At (n + 1) 41 0 [(0, .ref r0), (1, .ref r1)] [] s Q :=
  pl_wp_at (stops := []) (f := 24) h rfl


-- ProofBench$Proof.takeOne(ILProofBench$Shelf;)I
theorem pl_35_0 {n : Nat} {r0 : Nat} {x1 : Int32} {r2 : Nat} {s : ps_S} {Q : Option Value → ps_S → Prop} (h :
  pl_Cl n 33 [.ref r0, .int x1] s (ps_rA (fun v1 s1 =>
    pl_Cl n 36 [.ref r0, .ref v1, .int x1, .ref r2] s1 (ps_rI (fun v2 s2 =>
      (v2 ≠ 0 →
        pl_At n 35 21 [(0, .ref r0), (1, .int x1), (2, .ref r2), (3, .ref v1), (4, .int 0)] [] s2 Q) ∧
      (v2 = 0 →
        Q (some (.int 1)) s2)))))) : pl_At (n + 1) 35 0 [(0, .ref r0), (1, .int x1), (2, .ref r2)] [] s Q :=
  pl_wp_at (stops := [(21, [0, 1, 2, 3, 4]), (73, [0, 3, 5])]) (f := 16) h rfl


theorem pl_35_21 {n : Nat} {r0 : Nat} {x1 : Int32} {r2 : Nat} {r3 : Nat} {x4 : Int32} {s : ps_S} {Q : Option Value → ps_S → Prop} (h :
  pl_nk (ps_is r0 2) (pl_nk (Nat.beq (ps_K (ps_c0 r0 2)).1 0) (((nI (ps_ln (ps_c0 r0 2))) ≤ x4 →
    pl_Cl n 42 [.ref r0, .ref r3, .int x1, .ref r2] s (ps_rI (fun v1 s1 =>
      (v1 = 0 →
        pl_nk (ps_is r3 8) (pl_At n 35 73 [(0, .ref r0), (3, .ref r3), (5, .int 0)] [] (ps_uj s1 r3 12 ((1 : Int64) <<< (Int32.toInt64 x1 &&& 63))) Q)) ∧
      (v1 ≠ 0 →
        Q (some (.int v1)) s1)))) ∧
  (x4 < (nI (ps_ln (ps_c0 r0 2))) →
    pl_Cl n 38 [.ref r0, .int x4] s (ps_rA (fun v2 s2 =>
      pl_Cl n 91 [.ref v2] s2 (ps_rV (fun s3 =>
        pl_At n 35 21 [(0, .ref r0), (1, .int x1), (2, .ref r2), (3, .ref r3), (4, .int (x4 + 1))] [] s3 Q)))))))) : pl_At (n + 1) 35 21 [(0, .ref r0), (1, .int x1), (2, .ref r2), (3, .ref r3), (4, .int x4)] [] s Q :=
  pl_wp_at (stops := [(21, [0, 1, 2, 3, 4]), (73, [0, 3, 5])]) (f := 30) h rfl


theorem pl_35_73 {n : Nat} {r0 : Nat} {r3 : Nat} {x5 : Int32} {s : ps_S} {Q : Option Value → ps_S → Prop} (h :
  pl_nk (ps_is r3 8) (pl_Cl n 116 [.int (ps_i s r3 0)] s (ps_rI (fun v1 s1 =>
    (v1 ≤ x5 →
      pl_Cl n 41 [.ref r0, .ref r3] s1 (ps_rI (fun v2 s2 =>
        (v2 = 0 →
          Q (some (.int 0)) s2) ∧
        (v2 ≠ 0 →
          Q (some (.int 5)) s2)))) ∧
    (x5 < v1 →
      pl_Cl n 37 [.ref r0, .ref r3, .int x5] s1 (ps_rA (fun v3 s3 =>
        pl_Cl n 124 [.ref r3, .ref v3] s3 (ps_rV (fun s4 =>
          pl_Cl n 37 [.ref r0, .ref r3, .int x5] s4 (ps_rA (fun v5 s5 =>
            pl_Cl n 38 [.ref r0, .int x5] s5 (ps_rA (fun v6 s6 =>
              pl_Cl n 39 [.ref r0, .ref r3, .ref v5, .ref v6] s6 (ps_rV (fun s7 =>
                pl_At n 35 73 [(0, .ref r0), (3, .ref r3), (5, .int (x5 + 1))] [] s7 Q))))))))))))))) : pl_At (n + 1) 35 73 [(0, .ref r0), (3, .ref r3), (5, .int x5)] [] s Q :=
  pl_wp_at (stops := [(21, [0, 1, 2, 3, 4]), (73, [0, 3, 5])]) (f := 34) h rfl


-- ProofBench$Proof.takeSteps(LProofBench$Theory;LProofBench$Shelf;)V
theorem pl_34_0 {n : Nat} {r0 : Nat} {r1 : Nat} {r2 : Nat} {s : ps_S} {Q : Option Value → ps_S → Prop} (h :
  pl_nk (ps_is r0 2) (pl_At n 34 7 [(0, .ref r0), (2, .ref r2), (3, .int 0)] [] (ps_ur s r0 6 r1) Q)) : pl_At (n + 1) 34 0 [(0, .ref r0), (1, .ref r1), (2, .ref r2)] [] s Q :=
  pl_wp_at (stops := [(7, [0, 2, 3])]) (f := 7) h rfl

