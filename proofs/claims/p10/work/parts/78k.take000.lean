set_option maxRecDepth 100000
/-! the class: a step taken; the steps of a proof taken -/
-- ProofBench$Proof.make(LProofBench$Step;ILProofBench$Shelf;)I
theorem pl_42_0 {n : Nat} {r0 : Nat} {r1 : Nat} {x2 : Int32} {r3 : Nat} {s : ps_S} {Q : Option Value → ps_S → Prop} (h :
  pl_Cl n 37 [.ref r0, .ref r1, .int 0] s (ps_rA (fun v1 s1 =>
    pl_nk (ps_is v1 8) (pl_nk (ps_is r1 8) (((ps_i s1 r1 0) = 6 →
      pl_Cl n 43 [.ref r0, .ref r1, .int x2, .ref r3] s1 (ps_rI (fun v2 s2 =>
        Q (some (.int v2)) s2))) ∧
    ((ps_i s1 r1 0) ≠ 6 →
      ((ps_i s1 r1 0) = 7 →
      pl_Cl n 48 [.ref r0, .ref r1, .ref (ps_c0 v1 6)] s1 (ps_rI (fun v3 s3 =>
        Q (some (.int v3)) s3))) ∧
    ((ps_i s1 r1 0) ≠ 7 →
      ((ps_i s1 r1 0) = 8 →
      pl_Cl n 48 [.ref r0, .ref r1, .ref (ps_c0 v1 6)] s1 (ps_rI (fun v4 s4 =>
        Q (some (.int v4)) s4))) ∧
    ((ps_i s1 r1 0) ≠ 8 →
      ((ps_i s1 r1 0) = 9 →
      pl_Cl n 48 [.ref r0, .ref r1, .ref (ps_c0 v1 6)] s1 (ps_rI (fun v5 s5 =>
        Q (some (.int v5)) s5))) ∧
    ((ps_i s1 r1 0) ≠ 9 →
      ((ps_i s1 r1 0) = 10 →
      pl_Cl n 43 [.ref r0, .ref r1, .int x2, .ref r3] s1 (ps_rI (fun v6 s6 =>
        Q (some (.int v6)) s6))) ∧
    ((ps_i s1 r1 0) ≠ 10 →
      ((ps_i s1 r1 0) = 11 →
      pl_Cl n 43 [.ref r0, .ref r1, .int x2, .ref r3] s1 (ps_rI (fun v7 s7 =>
        Q (some (.int v7)) s7))) ∧
    ((ps_i s1 r1 0) ≠ 11 →
      ((ps_i s1 r1 0) = 12 →
      pl_Cl n 43 [.ref r0, .ref r1, .int x2, .ref r3] s1 (ps_rI (fun v8 s8 =>
        Q (some (.int v8)) s8))) ∧
    ((ps_i s1 r1 0) ≠ 12 →
      ((ps_i s1 r1 0) = 13 →
      pl_Cl n 44 [.ref r0, .ref r1, .ref (ps_c0 v1 6)] s1 (ps_rI (fun v9 s9 =>
        Q (some (.int v9)) s9))) ∧
    ((ps_i s1 r1 0) ≠ 13 →
      ((ps_i s1 r1 0) = 14 →
      pl_Cl n 45 [.ref r0, .ref r1, .ref (ps_c0 v1 6)] s1 (ps_rI (fun v10 s10 =>
        Q (some (.int v10)) s10))) ∧
    ((ps_i s1 r1 0) ≠ 14 →
      ((ps_i s1 r1 0) = 15 →
      pl_Cl n 45 [.ref r0, .ref r1, .ref (ps_c0 v1 6)] s1 (ps_rI (fun v11 s11 =>
        Q (some (.int v11)) s11))) ∧
    ((ps_i s1 r1 0) ≠ 15 →
      ((ps_i s1 r1 0) = 16 →
      pl_Cl n 44 [.ref r0, .ref r1, .ref (ps_c0 v1 6)] s1 (ps_rI (fun v12 s12 =>
        Q (some (.int v12)) s12))) ∧
    ((ps_i s1 r1 0) ≠ 16 →
      ((ps_i s1 r1 0) = 17 →
      pl_Cl n 44 [.ref r0, .ref r1, .ref (ps_c0 v1 6)] s1 (ps_rI (fun v13 s13 =>
        Q (some (.int v13)) s13))) ∧
    ((ps_i s1 r1 0) ≠ 17 →
      ((ps_i s1 r1 0) = 18 →
      pl_Cl n 46 [.ref r0, .ref r1, .ref (ps_c0 v1 6)] s1 (ps_rI (fun v14 s14 =>
        Q (some (.int v14)) s14))) ∧
    ((ps_i s1 r1 0) ≠ 18 →
      ((ps_i s1 r1 0) = 19 →
      pl_Cl n 37 [.ref r0, .ref r1, .int 1] s1 (ps_rA (fun v15 s15 =>
        pl_nk (ps_is v15 8) (pl_Cl n 47 [.ref r0, .ref r1, .ref (ps_c0 v1 6), .ref (ps_c0 v15 6)] s15 (ps_rI (fun v16 s16 =>
          Q (some (.int v16)) s16)))))) ∧
    ((ps_i s1 r1 0) ≠ 19 →
      ((ps_i s1 r1 0) = 20 →
      pl_Cl n 44 [.ref r0, .ref r1, .ref (ps_c0 v1 6)] s1 (ps_rI (fun v17 s17 =>
        Q (some (.int v17)) s17))) ∧
    ((ps_i s1 r1 0) ≠ 20 →
      ((ps_i s1 r1 0) = 21 →
      pl_Cl n 49 [.ref r0, .ref r1, .ref (ps_c0 v1 6)] s1 (ps_rI (fun v18 s18 =>
        Q (some (.int v18)) s18))) ∧
    ((ps_i s1 r1 0) ≠ 21 →
      ((ps_i s1 r1 0) = 22 →
      pl_Cl n 50 [.ref r0, .ref r1, .ref (ps_c0 v1 6)] s1 (ps_rI (fun v19 s19 =>
        Q (some (.int v19)) s19))) ∧
    ((ps_i s1 r1 0) ≠ 22 →
      ((ps_i s1 r1 0) = 23 →
      pl_Cl n 53 [.ref r0, .ref r1, .ref (ps_c0 v1 6)] s1 (ps_rI (fun v20 s20 =>
        Q (some (.int v20)) s20))) ∧
    ((ps_i s1 r1 0) ≠ 23 →
      ((ps_i s1 r1 0) = 24 →
      pl_Cl n 37 [.ref r0, .ref r1, .int 1] s1 (ps_rA (fun v21 s21 =>
        pl_Cl n 54 [.ref r0, .ref r1, .ref (ps_c0 v1 6), .ref v21] s21 (ps_rI (fun v22 s22 =>
          Q (some (.int v22)) s22))))) ∧
    ((ps_i s1 r1 0) ≠ 24 →
      ((ps_i s1 r1 0) = 25 →
      pl_Cl n 37 [.ref r0, .ref r1, .int 1] s1 (ps_rA (fun v23 s23 =>
        pl_nk (ps_is v23 8) (pl_Cl n 55 [.ref r0, .ref r1, .ref (ps_c0 v1 6), .ref (ps_c0 v23 6)] s23 (ps_rI (fun v24 s24 =>
          Q (some (.int v24)) s24)))))) ∧
    ((ps_i s1 r1 0) ≠ 25 →
      pl_Cl n 48 [.ref r0, .ref r1, .ref (ps_c0 v1 6)] s1 (ps_rI (fun v25 s25 =>
      Q (some (.int v25)) s25))))))))))))))))))))))))))) : pl_At (n + 1) 42 0 [(0, .ref r0), (1, .ref r1), (2, .int x2), (3, .ref r3)] [] s Q :=
  pl_wp_at (stops := []) (f := 134) h rfl

