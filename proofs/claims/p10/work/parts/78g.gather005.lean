set_option maxRecDepth 100000
-- ProofBench$Proof.makeAlone(LProofBench$Step;ILProofBench$Shelf;)I
theorem pl_43_0 {n : Nat} {r0 : Nat} {r1 : Nat} {x2 : Int32} {r3 : Nat} {s : ps_S} {Q : Option Value → ps_S → Prop} (h :
  pl_nk (ps_is r1 8) (((ps_i s r1 0) = 10 →
    pl_nk (ps_is r1 8) (pl_nk (ps_is r0 2) (pl_nk (ps_is r1 8) (pl_Cl n 135 [.ref (ps_r s r0 6), .int (ps_i s r1 2)] s (ps_rA (fun v1 s1 =>
      pl_Cl n 95 [.ref (ps_c0 r1 6), .ref v1] s1 (ps_rV (fun s2 =>
        pl_nk (ps_is r1 8) (pl_nk (ps_is r1 8) (Q (some (.int 0)) (ps_ui s2 r1 10 ((1 : Int32) <<< ((ps_i s2 r1 2) &&& 31))))))))))))) ∧
  ((ps_i s r1 0) ≠ 10 →
    ((ps_i s r1 0) = 11 →
    pl_nk (ps_is r1 8) (pl_nk (ps_is r1 8) (pl_Cl n 95 [.ref (ps_c0 r1 6), .ref (ps_c0 r1 5)] s (ps_rV (fun s3 =>
      pl_Cl n 123 [.ref r1, .int x2] s3 (ps_rV (fun s4 =>
        Q (some (.int 0)) s4))))))) ∧
  ((ps_i s r1 0) ≠ 11 →
    ((ps_i s r1 0) = 12 →
    pl_nk (ps_is r1 8) (pl_Cl n 121 [.ref r1, .int 0] s (ps_rI (fun v5 s5 =>
      pl_Cl n 110 [.ref r3, .int v5] s5 (ps_rA (fun v6 s6 =>
        pl_Cl n 95 [.ref (ps_c0 r1 6), .ref v6] s6 (ps_rV (fun s7 =>
          pl_Cl n 121 [.ref r1, .int 0] s7 (ps_rI (fun v8 s8 =>
            pl_nk (ps_is r1 8) (Q (some (.int 0)) (ps_ui s8 r1 11 ((1 : Int32) <<< (v8 &&& 31)))))))))))))) ∧
  ((ps_i s r1 0) ≠ 12 →
    pl_nk (ps_is r1 8) (pl_nk (ps_is r1 8) (pl_nk (ps_is r1 8) (pl_Cl n 97 [.ref (ps_c0 r1 6), .int 6, .ref (ps_c0 r1 4), .ref (ps_c0 r1 4)] s (ps_rV (fun s9 =>
    Q (some (.int 0)) s9)))))))))) : pl_At (n + 1) 43 0 [(0, .ref r0), (1, .ref r1), (2, .int x2), (3, .ref r3)] [] s Q :=
  pl_wp_at (stops := []) (f := 61) h rfl

