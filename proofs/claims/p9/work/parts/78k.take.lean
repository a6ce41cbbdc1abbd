set_option maxRecDepth 100000
/-! the class: a step taken; the steps of a proof taken -/
-- ProofBench$Proof.make(LProofBench$Step;ILProofBench$Shelf;)I
theorem pl_42_0 {n : Nat} {r0 : Nat} {r1 : Nat} {x2 : Int32} {r3 : Nat} {s : ps_S} {Q : Option Value → ps_S → Prop} (h :
  pl_Cl n 37 [.ref r0, .ref r1, .int 0] s (ps_rA (fun v1 s1 =>
    pl_nk (ps_is v1 8) (pl_nk (ps_is r1 8) (((ps_i s1 r1 0) = 6 →
      pl_Cl n 43 [.ref r0, .ref r1, .int x2, .ref r3] s1 (ps_rI (fun v2 s2 =>
        Q (some (.int v2)) s2))) ∧
    ((ps_i s1 r1 0) ≠ 6 →
      ((ps_i s1 r1 0) = 7 →
      pl_Cl n 48 [.ref r0, .ref r1, .ref (ps_c0 v1 6)] s1 (ps_rI (fun v3 s3 =>
        Q (some (.int v3)) s3))) ∧
    ((ps_i s1 r1 0) ≠ 7 →
      ((ps_i s1 r1 0) = 8 →
      pl_Cl n 48 [.ref r0, .ref r1, .ref (ps_c0 v1 6)] s1 (ps_rI (fun v4 s4 =>
        Q (some (.int v4)) s4))) ∧
    ((ps_i s1 r1 0) ≠ 8 →
      ((ps_i s1 r1 0) = 9 →
      pl_Cl n 48 [.ref r0, .ref r1, .ref (ps_c0 v1 6)] s1 (ps_rI (fun v5 s5 =>
        Q (some (.int v5)) s5))) ∧
    ((ps_i s1 r1 0) ≠ 9 →
      ((ps_i s1 r1 0) = 10 →
      pl_Cl n 43 [.ref r0, .ref r1, .int x2, .ref r3] s1 (ps_rI (fun v6 s6 =>
        Q (some (.int v6)) s6))) ∧
    ((ps_i s1 r1 0) ≠ 10 →
      ((ps_i s1 r1 0) = 11 →
      pl_Cl n 43 [.ref r0, .ref r1, .int x2, .ref r3] s1 (ps_rI (fun v7 s7 =>
        Q (some (.int v7)) s7))) ∧
    ((ps_i s1 r1 0) ≠ 11 →
      ((ps_i s1 r1 0) = 12 →
      pl_Cl n 43 [.ref r0, .ref r1, .int x2, .ref r3] s1 (ps_rI (fun v8 s8 =>
        Q (some (.int v8)) s8))) ∧
    ((ps_i s1 r1 0) ≠ 12 →
      ((ps_i s1 r1 0) = 13 →
      pl_Cl n 44 [.ref r0, .ref r1, .ref (ps_c0 v1 6)] s1 (ps_rI (fun v9 s9 =>
        Q (some (.int v9)) s9))) ∧
    ((ps_i s1 r1 0) ≠ 13 →
      ((ps_i s1 r1 0) = 14 →
      pl_Cl n 45 [.ref r0, .ref r1, .ref (ps_c0 v1 6)] s1 (ps_rI (fun v10 s10 =>
        Q (some (.int v10)) s10))) ∧
    ((ps_i s1 r1 0) ≠ 14 →
      ((ps_i s1 r1 0) = 15 →
      pl_Cl n 45 [.ref r0, .ref r1, .ref (ps_c0 v1 6)] s1 (ps_rI (fun v11 s11 =>
        Q (some (.int v11)) s11))) ∧
    ((ps_i s1 r1 0) ≠ 15 →
      ((ps_i s1 r1 0) = 16 →
      pl_Cl n 44 [.ref r0, .ref r1, .ref (ps_c0 v1 6)] s1 (ps_rI (fun v12 s12 =>
        Q (some (.int v12)) s12))) ∧
    ((ps_i s1 r1 0) ≠ 16 →
      ((ps_i s1 r1 0) = 17 →
      pl_Cl n 44 [.ref r0, .ref r1, .ref (ps_c0 v1 6)] s1 (ps_rI (fun v13 s13 =>
        Q (some (.int v13)) s13))) ∧
    ((ps_i s1 r1 0) ≠ 17 →
      ((ps_i s1 r1 0) = 18 →
      pl_Cl n 46 [.ref r0, .ref r1, .ref (ps_c0 v1 6)] s1 (ps_rI (fun v14 s14 =>
        Q (some (.int v14)) s14))) ∧
    ((ps_i s1 r1 0) ≠ 18 →
      ((ps_i s1 r1 0) = 19 →
      pl_Cl n 37 [.ref r0, .ref r1, .int 1] s1 (ps_rA (fun v15 s15 =>
        pl_nk (ps_is v15 8) (pl_Cl n 47 [.ref r0, .ref r1, .ref (ps_c0 v1 6), .ref (ps_c0 v15 6)] s15 (ps_rI (fun v16 s16 =>
          Q (some (.int v16)) s16)))))) ∧
    ((ps_i s1 r1 0) ≠ 19 →
      ((ps_i s1 r1 0) = 20 →
      pl_Cl n 44 [.ref r0, .ref r1, .ref (ps_c0 v1 6)] s1 (ps_rI (fun v17 s17 =>
        Q (some (.int v17)) s17))) ∧
    ((ps_i s1 r1 0) ≠ 20 →
      ((ps_i s1 r1 0) = 21 →
      pl_Cl n 49 [.ref r0, .ref r1, .ref (ps_c0 v1 6)] s1 (ps_rI (fun v18 s18 =>
        Q (some (.int v18)) s18))) ∧
    ((ps_i s1 r1 0) ≠ 21 →
      ((ps_i s1 r1 0) = 22 →
      pl_Cl n 50 [.ref r0, .ref r1, .ref (ps_c0 v1 6)] s1 (ps_rI (fun v19 s19 =>
        Q (some (.int v19)) s19))) ∧
    ((ps_i s1 r1 0) ≠ 22 →
      ((ps_i s1 r1 0) = 23 →
      pl_Cl n 53 [.ref r0, .ref r1, .ref (ps_c0 v1 6)] s1 (ps_rI (fun v20 s20 =>
        Q (some (.int v20)) s20))) ∧
    ((ps_i s1 r1 0) ≠ 23 →
      ((ps_i s1 r1 0) = 24 →
      pl_Cl n 37 [.ref r0, .ref r1, .int 1] s1 (ps_rA (fun v21 s21 =>
        pl_Cl n 54 [.ref r0, .ref r1, .ref (ps_c0 v1 6), .ref v21] s21 (ps_rI (fun v22 s22 =>
          Q (some (.int v22)) s22))))) ∧
    ((ps_i s1 r1 0) ≠ 24 →
      ((ps_i s1 r1 0) = 25 →
      pl_Cl n 37 [.ref r0, .ref r1, .int 1] s1 (ps_rA (fun v23 s23 =>
        pl_nk (ps_is v23 8) (pl_Cl n 55 [.ref r0, .ref r1, .ref (ps_c0 v1 6), .ref (ps_c0 v23 6)] s23 (ps_rI (fun v24 s24 =>
          Q (some (.int v24)) s24)))))) ∧
    ((ps_i s1 r1 0) ≠ 25 →
      pl_Cl n 48 [.ref r0, .ref r1, .ref (ps_c0 v1 6)] s1 (ps_rI (fun v25 s25 =>
      Q (some (.int v25)) s25))))))))))))))))))))))))))) : pl_At (n + 1) 42 0 [(0, .ref r0), (1, .ref r1), (2, .int x2), (3, .ref r3)] [] s Q :=
  pl_wp_at (stops := []) (f := 134) h rfl

-- ProofBench$Proof.isTooMuch(LProofBench$Step;)Z
theorem pl_41_0 {n : Nat} {r0 : Nat} {r1 : Nat} {s : ps_S} {Q : Option Value → ps_S → Prop} (h :
  pl_nk (ps_is r1 8) (pl_nk (ps_is (ps_c0 r1 6) 5) (((ps_i s (ps_c0 r1 6) 2) ≠ 0 →
    Q (some (.int 1)) s) ∧
  ((ps_i s (ps_c0 r1 6) 2) = 0 →
    pl_nk (ps_is r1 8) (((ps_i s r1 9) = 0 →
      pl_nk (ps_is r0 2) (pl_nk (ps_is r1 8) (pl_nk (ps_is r0 2) (pl_Cl n 103 [.ref (ps_c0 r0 5), .ref (ps_c0 r1 6), .ref (ps_r s r0 6)] s (ps_rV (fun s1 =>
        pl_nk (ps_is r0 2) (pl_Cl n 106 [.ref (ps_c0 r0 5)] s1 (ps_rI (fun v2 s2 =>
          pl_nk (decide (v2 &&& 1 = v2)) (Q (some (.int v2)) s2)))))))))) ∧
    ((ps_i s r1 9) ≠ 0 →
      Q (some (.int 1)) s)))))) : pl_At (n + 1) 41 0 [(0, .ref r0), (1, .ref r1)] [] s Q :=
  pl_wp_at (stops := []) (f := 24) h rfl

-- ProofBench$Proof.takeOne(ILProofBench$Shelf;)I
theorem pl_35_0 {n : Nat} {r0 : Nat} {x1 : Int32} {r2 : Nat} {s : ps_S} {Q : Option Value → ps_S → Prop} (h :
  pl_Cl n 33 [.ref r0, .int x1] s (ps_rA (fun v1 s1 =>
    pl_Cl n 36 [.ref r0, .ref v1, .int x1, .ref r2] s1 (ps_rI (fun v2 s2 =>
      (v2 ≠ 0 →
        pl_At n 35 21 [(0, .ref r0), (1, .int x1), (2, .ref r2), (3, .ref v1), (4, .int 0)] [] s2 Q) ∧
      (v2 = 0 →
        Q (some (.int 1)) s2)))))) : pl_At (n + 1) 35 0 [(0, .ref r0), (1, .int x1), (2, .ref r2)] [] s Q :=
  pl_wp_at (stops := [(21, [0, 1, 2, 3, 4]), (73, [0, 3, 5])]) (f := 16) h rfl

theorem pl_35_21 {n : Nat} {r0 : Nat} {x1 : Int32} {r2 : Nat} {r3 : Nat} {x4 : Int32} {s : ps_S} {Q : Option Value → ps_S → Prop} (h :
  pl_nk (ps_is r0 2) (pl_nk (Nat.beq (ps_K (ps_c0 r0 2)).1 0) (((nI (ps_ln (ps_c0 r0 2))) ≤ x4 →
    pl_Cl n 42 [.ref r0, .ref r3, .int x1, .ref r2] s (ps_rI (fun v1 s1 =>
      (v1 = 0 →
        pl_nk (ps_is r3 8) (pl_At n 35 73 [(0, .ref r0), (3, .ref r3), (5, .int 0)] [] (ps_uj s1 r3 12 ((1 : Int64) <<< (Int32.toInt64 x1 &&& 63))) Q)) ∧
      (v1 ≠ 0 →
        Q (some (.int v1)) s1)))) ∧
  (x4 < (nI (ps_ln (ps_c0 r0 2))) →
    pl_Cl n 38 [.ref r0, .int x4] s (ps_rA (fun v2 s2 =>
      pl_Cl n 91 [.ref v2] s2 (ps_rV (fun s3 =>
        pl_At n 35 21 [(0, .ref r0), (1, .int x1), (2, .ref r2), (3, .ref r3), (4, .int (x4 + 1))] [] s3 Q)))))))) : pl_At (n + 1) 35 21 [(0, .ref r0), (1, .int x1), (2, .ref r2), (3, .ref r3), (4, .int x4)] [] s Q :=
  pl_wp_at (stops := [(21, [0, 1, 2, 3, 4]), (73, [0, 3, 5])]) (f := 30) h rfl

theorem pl_35_73 {n : Nat} {r0 : Nat} {r3 : Nat} {x5 : Int32} {s : ps_S} {Q : Option Value → ps_S → Prop} (h :
  pl_nk (ps_is r3 8) (pl_Cl n 116 [.int (ps_i s r3 0)] s (ps_rI (fun v1 s1 =>
    (v1 ≤ x5 →
      pl_Cl n 41 [.ref r0, .ref r3] s1 (ps_rI (fun v2 s2 =>
        (v2 = 0 →
          Q (some (.int 0)) s2) ∧
        (v2 ≠ 0 →
          Q (some (.int 5)) s2)))) ∧
    (x5 < v1 →
      pl_Cl n 37 [.ref r0, .ref r3, .int x5] s1 (ps_rA (fun v3 s3 =>
        pl_Cl n 124 [.ref r3, .ref v3] s3 (ps_rV (fun s4 =>
          pl_Cl n 37 [.ref r0, .ref r3, .int x5] s4 (ps_rA (fun v5 s5 =>
            pl_Cl n 38 [.ref r0, .int x5] s5 (ps_rA (fun v6 s6 =>
              pl_Cl n 39 [.ref r0, .ref r3, .ref v5, .ref v6] s6 (ps_rV (fun s7 =>
                pl_At n 35 73 [(0, .ref r0), (3, .ref r3), (5, .int (x5 + 1))] [] s7 Q))))))))))))))) : pl_At (n + 1) 35 73 [(0, .ref r0), (3, .ref r3), (5, .int x5)] [] s Q :=
  pl_wp_at (stops := [(21, [0, 1, 2, 3, 4]), (73, [0, 3, 5])]) (f := 34) h rfl

-- ProofBench$Proof.takeSteps(LProofBench$Theory;LProofBench$Shelf;)V
theorem pl_34_0 {n : Nat} {r0 : Nat} {r1 : Nat} {r2 : Nat} {s : ps_S} {Q : Option Value → ps_S → Prop} (h :
  pl_nk (ps_is r0 2) (pl_At n 34 7 [(0, .ref r0), (2, .ref r2), (3, .int 0)] [] (ps_ur s r0 6 r1) Q)) : pl_At (n + 1) 34 0 [(0, .ref r0), (1, .ref r1), (2, .ref r2)] [] s Q :=
  pl_wp_at (stops := [(7, [0, 2, 3])]) (f := 7) h rfl

theorem pl_34_7 {n : Nat} {r0 : Nat} {r2 : Nat} {x3 : Int32} {s : ps_S} {Q : Option Value → ps_S → Prop} (h :
  pl_nk (ps_is r0 2) (((ps_i s r0 7) ≤ x3 →
    Q none s) ∧
  (x3 < (ps_i s r0 7) →
    pl_Cl n 35 [.ref r0, .int x3, .ref r2] s (ps_rI (fun v1 s1 =>
      pl_nk (ps_is r0 2) (pl_nk (ps_is r0 2) (((ps_i (ps_ui s1 r0 9 v1) r0 9) = 0 →
        pl_nk (ps_is r0 2) (pl_At n 34 7 [(0, .ref r0), (2, .ref r2), (3, .int (x3 + 1))] [] (ps_ui (ps_ui s1 r0 9 v1) r0 8 (x3 + 1)) Q)) ∧
      ((ps_i (ps_ui s1 r0 9 v1) r0 9) ≠ 0 →
        Q none (ps_ui s1 r0 9 v1))))))))) : pl_At (n + 1) 34 7 [(0, .ref r0), (2, .ref r2), (3, .int x3)] [] s Q :=
  pl_wp_at (stops := [(7, [0, 2, 3])]) (f := 24) h rfl

section S42
variable {p th : Nat} {h : tx_H} {Θ : List tq_H} {D : List tq_R} {st : tp_P} {s : ps_S} {R : Int32 → ps_S → Prop} {x2 : Int32}
theorem fs_42 {n : Nat} (hp : p = 50 ∨ p = 460) (hi : D.length < 40) (X : cpX s p th h Θ D st) (hD : tq_GD h.1 D) (hG : tp_G h.1 h.2.length st) (B : cpB s p (stc p D.length)) (hpr : tq_pr Θ D st) (hx : x2.toInt = D.length) (k : ∀ v s', cpK s p h Θ D st v s' → R v s') : pl_Cl n 42 [.ref p, .ref (stc p D.length), .int x2, .ref 870] s (ps_rI R) := by
  cases n with
  | zero => exact pl_At_0
  | succ n =>
  show pl_At (n + 1) 42 0 [(0, .ref p), (1, .ref (stc p D.length)), (2, .int x2), (3, .ref 870)] [] s (ps_rI R)
  have hl := stc_lt hp hi
  obtain ⟨⟨r, n1, n2, n3⟩, ⟨ax, x⟩, tt, f⟩ := st
  obtain ⟨t0, t1, t2, t3, -⟩ := id X.2.2.2.1
  rcases tp_ok_c hG.1 with rfl | rfl | rfl | rfl | rfl | rfl | rfl | rfl | rfl | rfl | rfl | rfl | rfl | rfl | rfl | rfl | rfl | rfl | rfl
  · have er : (ps_i s (stc p D.length) 0).toInt = (6 : Int) := t0
    refine pl_42_0 (fs_37o (fun v1 => pl_nk_i (fun _ => pl_nk_i (fun _ => ?_))))
    refine ⟨fun _ => ?_, fun z => absurd (show (ps_i s (stc p D.length) 0).toInt = (6 : Int) from er) (xne z)⟩
    exact fs_43_r6 hp hi X hD hG B k
  · have er : (ps_i s (stc p D.length) 0).toInt = (10 : Int) := t0
    refine pl_42_0 (fs_37o (fun v1 => pl_nk_i (fun _ => pl_nk_i (fun _ => ?_))))
    refine ⟨fun z => absurd (show (ps_i s (stc p D.length) 0).toInt = (6 : Int) from xeq z) (by omega), fun _ => ?_⟩
    refine ⟨fun z => absurd (show (ps_i s (stc p D.length) 0).toInt = (7 : Int) from xeq z) (by omega), fun _ => ?_⟩
    refine ⟨fun z => absurd (show (ps_i s (stc p D.length) 0).toInt = (8 : Int) from xeq z) (by omega), fun _ => ?_⟩
    refine ⟨fun z => absurd (show (ps_i s (stc p D.length) 0).toInt = (9 : Int) from xeq z) (by omega), fun _ => ?_⟩
    refine ⟨fun _ => ?_, fun z => absurd (show (ps_i s (stc p D.length) 0).toInt = (10 : Int) from er) (xne z)⟩
    exact fs_43_r10 hp hi X hD hG B k
  · have er : (ps_i s (stc p D.length) 0).toInt = (11 : Int) := t0
    refine pl_42_0 (fs_37o (fun v1 => pl_nk_i (fun _ => pl_nk_i (fun _ => ?_))))
    refine ⟨fun z => absurd (show (ps_i s (stc p D.length) 0).toInt = (6 : Int) from xeq z) (by omega), fun _ => ?_⟩
    refine ⟨fun z => absurd (show (ps_i s (stc p D.length) 0).toInt = (7 : Int) from xeq z) (by omega), fun _ => ?_⟩
    refine ⟨fun z => absurd (show (ps_i s (stc p D.length) 0).toInt = (8 : Int) from xeq z) (by omega), fun _ => ?_⟩
    refine ⟨fun z => absurd (show (ps_i s (stc p D.length) 0).toInt = (9 : Int) from xeq z) (by omega), fun _ => ?_⟩
    refine ⟨fun z => absurd (show (ps_i s (stc p D.length) 0).toInt = (10 : Int) from xeq z) (by omega), fun _ => ?_⟩
    refine ⟨fun _ => ?_, fun z => absurd (show (ps_i s (stc p D.length) 0).toInt = (11 : Int) from er) (xne z)⟩
    exact fs_43_r11 hx hp hi X hD hG B k
  · have er : (ps_i s (stc p D.length) 0).toInt = (12 : Int) := t0
    refine pl_42_0 (fs_37o (fun v1 => pl_nk_i (fun _ => pl_nk_i (fun _ => ?_))))
    refine ⟨fun z => absurd (show (ps_i s (stc p D.length) 0).toInt = (6 : Int) from xeq z) (by omega), fun _ => ?_⟩
    refine ⟨fun z => absurd (show (ps_i s (stc p D.length) 0).toInt = (7 : Int) from xeq z) (by omega), fun _ => ?_⟩
    refine ⟨fun z => absurd (show (ps_i s (stc p D.length) 0).toInt = (8 : Int) from xeq z) (by omega), fun _ => ?_⟩
    refine ⟨fun z => absurd (show (ps_i s (stc p D.length) 0).toInt = (9 : Int) from xeq z) (by omega), fun _ => ?_⟩
    refine ⟨fun z => absurd (show (ps_i s (stc p D.length) 0).toInt = (10 : Int) from xeq z) (by omega), fun _ => ?_⟩
    refine ⟨fun z => absurd (show (ps_i s (stc p D.length) 0).toInt = (11 : Int) from xeq z) (by omega), fun _ => ?_⟩
    refine ⟨fun _ => ?_, fun z => absurd (show (ps_i s (stc p D.length) 0).toInt = (12 : Int) from er) (xne z)⟩
    exact fs_43_r12 hpr hp hi X hD hG B k
  · have er : (ps_i s (stc p D.length) 0).toInt = (13 : Int) := t0
    have p1 : n1 < D.length := hpr.1 (of_decide_eq_true rfl)
    have p2 : n2 < D.length := hpr.2.1 (of_decide_eq_true rfl)
    refine pl_42_0 (fs_37 (j := 0) (i := n1) hp (stc_is hp hi) hl.2.1 rfl (by decide) (t1 (of_decide_eq_true rfl)) (by omega) (pl_nk_i (fun _ => pl_nk_i (fun _ => ?_))))
    rw [(stc_c hp (i := n1) (by omega)).2.2.2.1]
    refine ⟨fun z => absurd (show (ps_i s (stc p D.length) 0).toInt = (6 : Int) from xeq z) (by omega), fun _ => ?_⟩
    refine ⟨fun z => absurd (show (ps_i s (stc p D.length) 0).toInt = (7 : Int) from xeq z) (by omega), fun _ => ?_⟩
    refine ⟨fun z => absurd (show (ps_i s (stc p D.length) 0).toInt = (8 : Int) from xeq z) (by omega), fun _ => ?_⟩
    refine ⟨fun z => absurd (show (ps_i s (stc p D.length) 0).toInt = (9 : Int) from xeq z) (by omega), fun _ => ?_⟩
    refine ⟨fun z => absurd (show (ps_i s (stc p D.length) 0).toInt = (10 : Int) from xeq z) (by omega), fun _ => ?_⟩
    refine ⟨fun z => absurd (show (ps_i s (stc p D.length) 0).toInt = (11 : Int) from xeq z) (by omega), fun _ => ?_⟩
    refine ⟨fun z => absurd (show (ps_i s (stc p D.length) 0).toInt = (12 : Int) from xeq z) (by omega), fun _ => ?_⟩
    refine ⟨fun _ => ?_, fun z => absurd (show (ps_i s (stc p D.length) 0).toInt = (13 : Int) from er) (xne z)⟩
    exact fs_44_r13 hp hi X hD hG B (hpr.1 (of_decide_eq_true rfl)) (hpr.2.1 (of_decide_eq_true rfl)) k
  · have er : (ps_i s (stc p D.length) 0).toInt = (14 : Int) := t0
    have p1 : n1 < D.length := hpr.1 (of_decide_eq_true rfl)
    refine pl_42_0 (fs_37 (j := 0) (i := n1) hp (stc_is hp hi) hl.2.1 rfl (by decide) (t1 (of_decide_eq_true rfl)) (by omega) (pl_nk_i (fun _ => pl_nk_i (fun _ => ?_))))
    rw [(stc_c hp (i := n1) (by omega)).2.2.2.1]
    refine ⟨fun z => absurd (show (ps_i s (stc p D.length) 0).toInt = (6 : Int) from xeq z) (by omega), fun _ => ?_⟩
    refine ⟨fun z => absurd (show (ps_i s (stc p D.length) 0).toInt = (7 : Int) from xeq z) (by omega), fun _ => ?_⟩
    refine ⟨fun z => absurd (show (ps_i s (stc p D.length) 0).toInt = (8 : Int) from xeq z) (by omega), fun _ => ?_⟩
    refine ⟨fun z => absurd (show (ps_i s (stc p D.length) 0).toInt = (9 : Int) from xeq z) (by omega), fun _ => ?_⟩
    refine ⟨fun z => absurd (show (ps_i s (stc p D.length) 0).toInt = (10 : Int) from xeq z) (by omega), fun _ => ?_⟩
    refine ⟨fun z => absurd (show (ps_i s (stc p D.length) 0).toInt = (11 : Int) from xeq z) (by omega), fun _ => ?_⟩
    refine ⟨fun z => absurd (show (ps_i s (stc p D.length) 0).toInt = (12 : Int) from xeq z) (by omega), fun _ => ?_⟩
    refine ⟨fun z => absurd (show (ps_i s (stc p D.length) 0).toInt = (13 : Int) from xeq z) (by omega), fun _ => ?_⟩
    refine ⟨fun _ => ?_, fun z => absurd (show (ps_i s (stc p D.length) 0).toInt = (14 : Int) from er) (xne z)⟩
    exact fs_45_r14 hp hi X hD hG B (hpr.1 (of_decide_eq_true rfl)) k
  · have er : (ps_i s (stc p D.length) 0).toInt = (15 : Int) := t0
    have p1 : n1 < D.length := hpr.1 (of_decide_eq_true rfl)
    refine pl_42_0 (fs_37 (j := 0) (i := n1) hp (stc_is hp hi) hl.2.1 rfl (by decide) (t1 (of_decide_eq_true rfl)) (by omega) (pl_nk_i (fun _ => pl_nk_i (fun _ => ?_))))
    rw [(stc_c hp (i := n1) (by omega)).2.2.2.1]
    refine ⟨fun z => absurd (show (ps_i s (stc p D.length) 0).toInt = (6 : Int) from xeq z) (by omega), fun _ => ?_⟩
    refine ⟨fun z => absurd (show (ps_i s (stc p D.length) 0).toInt = (7 : Int) from xeq z) (by omega), fun _ => ?_⟩
    refine ⟨fun z => absurd (show (ps_i s (stc p D.length) 0).toInt = (8 : Int) from xeq z) (by omega), fun _ => ?_⟩
    refine ⟨fun z => absurd (show (ps_i s (stc p D.length) 0).toInt = (9 : Int) from xeq z) (by omega), fun _ => ?_⟩
    refine ⟨fun z => absurd (show (ps_i s (stc p D.length) 0).toInt = (10 : Int) from xeq z) (by omega), fun _ => ?_⟩
    refine ⟨fun z => absurd (show (ps_i s (stc p D.length) 0).toInt = (11 : Int) from xeq z) (by omega), fun _ => ?_⟩
    refine ⟨fun z => absurd (show (ps_i s (stc p D.length) 0).toInt = (12 : Int) from xeq z) (by omega), fun _ => ?_⟩
    refine ⟨fun z => absurd (show (ps_i s (stc p D.length) 0).toInt = (13 : Int) from xeq z) (by omega), fun _ => ?_⟩
    refine ⟨fun z => absurd (show (ps_i s (stc p D.length) 0).toInt = (14 : Int) from xeq z) (by omega), fun _ => ?_⟩
    refine ⟨fun _ => ?_, fun z => absurd (show (ps_i s (stc p D.length) 0).toInt = (15 : Int) from er) (xne z)⟩
    exact fs_45_r15 hp hi X hD hG B (hpr.1 (of_decide_eq_true rfl)) k
  · have er : (ps_i s (stc p D.length) 0).toInt = (16 : Int) := t0
    have p1 : n1 < D.length := hpr.1 (of_decide_eq_true rfl)
    refine pl_42_0 (fs_37 (j := 0) (i := n1) hp (stc_is hp hi) hl.2.1 rfl (by decide) (t1 (of_decide_eq_true rfl)) (by omega) (pl_nk_i (fun _ => pl_nk_i (fun _ => ?_))))
    rw [(stc_c hp (i := n1) (by omega)).2.2.2.1]
    refine ⟨fun z => absurd (show (ps_i s (stc p D.length) 0).toInt = (6 : Int) from xeq z) (by omega), fun _ => ?_⟩
    refine ⟨fun z => absurd (show (ps_i s (stc p D.length) 0).toInt = (7 : Int) from xeq z) (by omega), fun _ => ?_⟩
    refine ⟨fun z => absurd (show (ps_i s (stc p D.length) 0).toInt = (8 : Int) from xeq z) (by omega), fun _ => ?_⟩
    refine ⟨fun z => absurd (show (ps_i s (stc p D.length) 0).toInt = (9 : Int) from xeq z) (by omega), fun _ => ?_⟩
    refine ⟨fun z => absurd (show (ps_i s (stc p D.length) 0).toInt = (10 : Int) from xeq z) (by omega), fun _ => ?_⟩
    refine ⟨fun z => absurd (show (ps_i s (stc p D.length) 0).toInt = (11 : Int) from xeq z) (by omega), fun _ => ?_⟩
    refine ⟨fun z => absurd (show (ps_i s (stc p D.length) 0).toInt = (12 : Int) from xeq z) (by omega), fun _ => ?_⟩
    refine ⟨fun z => absurd (show (ps_i s (stc p D.length) 0).toInt = (13 : Int) from xeq z) (by omega), fun _ => ?_⟩
    refine ⟨fun z => absurd (show (ps_i s (stc p D.length) 0).toInt = (14 : Int) from xeq z) (by omega), fun _ => ?_⟩
    refine ⟨fun z => absurd (show (ps_i s (stc p D.length) 0).toInt = (15 : Int) from xeq z) (by omega), fun _ => ?_⟩
    refine ⟨fun _ => ?_, fun z => absurd (show (ps_i s (stc p D.length) 0).toInt = (16 : Int) from er) (xne z)⟩
    exact fs_44_r16 hp hi X hD hG B (hpr.1 (of_decide_eq_true rfl)) k
  · have er : (ps_i s (stc p D.length) 0).toInt = (17 : Int) := t0
    have p1 : n1 < D.length := hpr.1 (of_decide_eq_true rfl)
    refine pl_42_0 (fs_37 (j := 0) (i := n1) hp (stc_is hp hi) hl.2.1 rfl (by decide) (t1 (of_decide_eq_true rfl)) (by omega) (pl_nk_i (fun _ => pl_nk_i (fun _ => ?_))))
    rw [(stc_c hp (i := n1) (by omega)).2.2.2.1]
    refine ⟨fun z => absurd (show (ps_i s (stc p D.length) 0).toInt = (6 : Int) from xeq z) (by omega), fun _ => ?_⟩
    refine ⟨fun z => absurd (show (ps_i s (stc p D.length) 0).toInt = (7 : Int) from xeq z) (by omega), fun _ => ?_⟩
    refine ⟨fun z => absurd (show (ps_i s (stc p D.length) 0).toInt = (8 : Int) from xeq z) (by omega), fun _ => ?_⟩
    refine ⟨fun z => absurd (show (ps_i s (stc p D.length) 0).toInt = (9 : Int) from xeq z) (by omega), fun _ => ?_⟩
    refine ⟨fun z => absurd (show (ps_i s (stc p D.length) 0).toInt = (10 : Int) from xeq z) (by omega), fun _ => ?_⟩
    refine ⟨fun z => absurd (show (ps_i s (stc p D.length) 0).toInt = (11 : Int) from xeq z) (by omega), fun _ => ?_⟩
    refine ⟨fun z => absurd (show (ps_i s (stc p D.length) 0).toInt = (12 : Int) from xeq z) (by omega), fun _ => ?_⟩
    refine ⟨fun z => absurd (show (ps_i s (stc p D.length) 0).toInt = (13 : Int) from xeq z) (by omega), fun _ => ?_⟩
    refine ⟨fun z => absurd (show (ps_i s (stc p D.length) 0).toInt = (14 : Int) from xeq z) (by omega), fun _ => ?_⟩
    refine ⟨fun z => absurd (show (ps_i s (stc p D.length) 0).toInt = (15 : Int) from xeq z) (by omega), fun _ => ?_⟩
    refine ⟨fun z => absurd (show (ps_i s (stc p D.length) 0).toInt = (16 : Int) from xeq z) (by omega), fun _ => ?_⟩
    refine ⟨fun _ => ?_, fun z => absurd (show (ps_i s (stc p D.length) 0).toInt = (17 : Int) from er) (xne z)⟩
    exact fs_44_r17 hp hi X hD hG B (hpr.1 (of_decide_eq_true rfl)) k
  · have er : (ps_i s (stc p D.length) 0).toInt = (18 : Int) := t0
    have p1 : n1 < D.length := hpr.1 (of_decide_eq_true rfl)
    have p2 : n2 < D.length := hpr.2.1 (of_decide_eq_true rfl)
    refine pl_42_0 (fs_37 (j := 0) (i := n1) hp (stc_is hp hi) hl.2.1 rfl (by decide) (t1 (of_decide_eq_true rfl)) (by omega) (pl_nk_i (fun _ => pl_nk_i (fun _ => ?_))))
    rw [(stc_c hp (i := n1) (by omega)).2.2.2.1]
    refine ⟨fun z => absurd (show (ps_i s (stc p D.length) 0).toInt = (6 : Int) from xeq z) (by omega), fun _ => ?_⟩
    refine ⟨fun z => absurd (show (ps_i s (stc p D.length) 0).toInt = (7 : Int) from xeq z) (by omega), fun _ => ?_⟩
    refine ⟨fun z => absurd (show (ps_i s (stc p D.length) 0).toInt = (8 : Int) from xeq z) (by omega), fun _ => ?_⟩
    refine ⟨fun z => absurd (show (ps_i s (stc p D.length) 0).toInt = (9 : Int) from xeq z) (by omega), fun _ => ?_⟩
    refine ⟨fun z => absurd (show (ps_i s (stc p D.length) 0).toInt = (10 : Int) from xeq z) (by omega), fun _ => ?_⟩
    refine ⟨fun z => absurd (show (ps_i s (stc p D.length) 0).toInt = (11 : Int) from xeq z) (by omega), fun _ => ?_⟩
    refine ⟨fun z => absurd (show (ps_i s (stc p D.length) 0).toInt = (12 : Int) from xeq z) (by omega), fun _ => ?_⟩
    refine ⟨fun z => absurd (show (ps_i s (stc p D.length) 0).toInt = (13 : Int) from xeq z) (by omega), fun _ => ?_⟩
    refine ⟨fun z => absurd (show (ps_i s (stc p D.length) 0).toInt = (14 : Int) from xeq z) (by omega), fun _ => ?_⟩
    refine ⟨fun z => absurd (show (ps_i s (stc p D.length) 0).toInt = (15 : Int) from xeq z) (by omega), fun _ => ?_⟩
    refine ⟨fun z => absurd (show (ps_i s (stc p D.length) 0).toInt = (16 : Int) from xeq z) (by omega), fun _ => ?_⟩
    refine ⟨fun z => absurd (show (ps_i s (stc p D.length) 0).toInt = (17 : Int) from xeq z) (by omega), fun _ => ?_⟩
    refine ⟨fun _ => ?_, fun z => absurd (show (ps_i s (stc p D.length) 0).toInt = (18 : Int) from er) (xne z)⟩
    exact fs_46_r18 hp hi X hD hG B (hpr.1 (of_decide_eq_true rfl)) (hpr.2.1 (of_decide_eq_true rfl)) (hpr.2.2 (of_decide_eq_true rfl)) k
  · have er : (ps_i s (stc p D.length) 0).toInt = (19 : Int) := t0
    have p1 : n1 < D.length := hpr.1 (of_decide_eq_true rfl)
    have p2 : n2 < D.length := hpr.2.1 (of_decide_eq_true rfl)
    refine pl_42_0 (fs_37 (j := 0) (i := n1) hp (stc_is hp hi) hl.2.1 rfl (by decide) (t1 (of_decide_eq_true rfl)) (by omega) (pl_nk_i (fun _ => pl_nk_i (fun _ => ?_))))
    rw [(stc_c hp (i := n1) (by omega)).2.2.2.1]
    refine ⟨fun z => absurd (show (ps_i s (stc p D.length) 0).toInt = (6 : Int) from xeq z) (by omega), fun _ => ?_⟩
    refine ⟨fun z => absurd (show (ps_i s (stc p D.length) 0).toInt = (7 : Int) from xeq z) (by omega), fun _ => ?_⟩
    refine ⟨fun z => absurd (show (ps_i s (stc p D.length) 0).toInt = (8 : Int) from xeq z) (by omega), fun _ => ?_⟩
    refine ⟨fun z => absurd (show (ps_i s (stc p D.length) 0).toInt = (9 : Int) from xeq z) (by omega), fun _ => ?_⟩
    refine ⟨fun z => absurd (show (ps_i s (stc p D.length) 0).toInt = (10 : Int) from xeq z) (by omega), fun _ => ?_⟩
    refine ⟨fun z => absurd (show (ps_i s (stc p D.length) 0).toInt = (11 : Int) from xeq z) (by omega), fun _ => ?_⟩
    refine ⟨fun z => absurd (show (ps_i s (stc p D.length) 0).toInt = (12 : Int) from xeq z) (by omega), fun _ => ?_⟩
    refine ⟨fun z => absurd (show (ps_i s (stc p D.length) 0).toInt = (13 : Int) from xeq z) (by omega), fun _ => ?_⟩
    refine ⟨fun z => absurd (show (ps_i s (stc p D.length) 0).toInt = (14 : Int) from xeq z) (by omega), fun _ => ?_⟩
    refine ⟨fun z => absurd (show (ps_i s (stc p D.length) 0).toInt = (15 : Int) from xeq z) (by omega), fun _ => ?_⟩
    refine ⟨fun z => absurd (show (ps_i s (stc p D.length) 0).toInt = (16 : Int) from xeq z) (by omega), fun _ => ?_⟩
    refine ⟨fun z => absurd (show (ps_i s (stc p D.length) 0).toInt = (17 : Int) from xeq z) (by omega), fun _ => ?_⟩
    refine ⟨fun z => absurd (show (ps_i s (stc p D.length) 0).toInt = (18 : Int) from xeq z) (by omega), fun _ => ?_⟩
    refine ⟨fun _ => ?_, fun z => absurd (show (ps_i s (stc p D.length) 0).toInt = (19 : Int) from er) (xne z)⟩
    refine fs_37 (j := 1) (i := n2) hp (stc_is hp hi) hl.2.1 rfl (by decide) (t2 (of_decide_eq_true rfl)) (by omega) (pl_nk_i (fun _ => ?_))
    rw [(stc_c hp (i := n2) (by omega)).2.2.2.1]
    exact fs_47_r19 hp hi X hD hG B (hpr.1 (of_decide_eq_true rfl)) (hpr.2.1 (of_decide_eq_true rfl)) k
  · have er : (ps_i s (stc p D.length) 0).toInt = (20 : Int) := t0
    have p1 : n1 < D.length := hpr.1 (of_decide_eq_true rfl)
    refine pl_42_0 (fs_37 (j := 0) (i := n1) hp (stc_is hp hi) hl.2.1 rfl (by decide) (t1 (of_decide_eq_true rfl)) (by omega) (pl_nk_i (fun _ => pl_nk_i (fun _ => ?_))))
    rw [(stc_c hp (i := n1) (by omega)).2.2.2.1]
    refine ⟨fun z => absurd (show (ps_i s (stc p D.length) 0).toInt = (6 : Int) from xeq z) (by omega), fun _ => ?_⟩
    refine ⟨fun z => absurd (show (ps_i s (stc p D.length) 0).toInt = (7 : Int) from xeq z) (by omega), fun _ => ?_⟩
    refine ⟨fun z => absurd (show (ps_i s (stc p D.length) 0).toInt = (8 : Int) from xeq z) (by omega), fun _ => ?_⟩
    refine ⟨fun z => absurd (show (ps_i s (stc p D.length) 0).toInt = (9 : Int) from xeq z) (by omega), fun _ => ?_⟩
    refine ⟨fun z => absurd (show (ps_i s (stc p D.length) 0).toInt = (10 : Int) from xeq z) (by omega), fun _ => ?_⟩
    refine ⟨fun z => absurd (show (ps_i s (stc p D.length) 0).toInt = (11 : Int) from xeq z) (by omega), fun _ => ?_⟩
    refine ⟨fun z => absurd (show (ps_i s (stc p D.length) 0).toInt = (12 : Int) from xeq z) (by omega), fun _ => ?_⟩
    refine ⟨fun z => absurd (show (ps_i s (stc p D.length) 0).toInt = (13 : Int) from xeq z) (by omega), fun _ => ?_⟩
    refine ⟨fun z => absurd (show (ps_i s (stc p D.length) 0).toInt = (14 : Int) from xeq z) (by omega), fun _ => ?_⟩
    refine ⟨fun z => absurd (show (ps_i s (stc p D.length) 0).toInt = (15 : Int) from xeq z) (by omega), fun _ => ?_⟩
    refine ⟨fun z => absurd (show (ps_i s (stc p D.length) 0).toInt = (16 : Int) from xeq z) (by omega), fun _ => ?_⟩
    refine ⟨fun z => absurd (show (ps_i s (stc p D.length) 0).toInt = (17 : Int) from xeq z) (by omega), fun _ => ?_⟩
    refine ⟨fun z => absurd (show (ps_i s (stc p D.length) 0).toInt = (18 : Int) from xeq z) (by omega), fun _ => ?_⟩
    refine ⟨fun z => absurd (show (ps_i s (stc p D.length) 0).toInt = (19 : Int) from xeq z) (by omega), fun _ => ?_⟩
    refine ⟨fun _ => ?_, fun z => absurd (show (ps_i s (stc p D.length) 0).toInt = (20 : Int) from er) (xne z)⟩
    exact fs_44_r20 hp hi X hD hG B (hpr.1 (of_decide_eq_true rfl)) k
  · have er : (ps_i s (stc p D.length) 0).toInt = (21 : Int) := t0
    have p1 : n1 < D.length := hpr.1 (of_decide_eq_true rfl)
    refine pl_42_0 (fs_37 (j := 0) (i := n1) hp (stc_is hp hi) hl.2.1 rfl (by decide) (t1 (of_decide_eq_true rfl)) (by omega) (pl_nk_i (fun _ => pl_nk_i (fun _ => ?_))))
    rw [(stc_c hp (i := n1) (by omega)).2.2.2.1]
    refine ⟨fun z => absurd (show (ps_i s (stc p D.length) 0).toInt = (6 : Int) from xeq z) (by omega), fun _ => ?_⟩
    refine ⟨fun z => absurd (show (ps_i s (stc p D.length) 0).toInt = (7 : Int) from xeq z) (by omega), fun _ => ?_⟩
    refine ⟨fun z => absurd (show (ps_i s (stc p D.length) 0).toInt = (8 : Int) from xeq z) (by omega), fun _ => ?_⟩
    refine ⟨fun z => absurd (show (ps_i s (stc p D.length) 0).toInt = (9 : Int) from xeq z) (by omega), fun _ => ?_⟩
    refine ⟨fun z => absurd (show (ps_i s (stc p D.length) 0).toInt = (10 : Int) from xeq z) (by omega), fun _ => ?_⟩
    refine ⟨fun z => absurd (show (ps_i s (stc p D.length) 0).toInt = (11 : Int) from xeq z) (by omega), fun _ => ?_⟩
    refine ⟨fun z => absurd (show (ps_i s (stc p D.length) 0).toInt = (12 : Int) from xeq z) (by omega), fun _ => ?_⟩
    refine ⟨fun z => absurd (show (ps_i s (stc p D.length) 0).toInt = (13 : Int) from xeq z) (by omega), fun _ => ?_⟩
    refine ⟨fun z => absurd (show (ps_i s (stc p D.length) 0).toInt = (14 : Int) from xeq z) (by omega), fun _ => ?_⟩
    refine ⟨fun z => absurd (show (ps_i s (stc p D.length) 0).toInt = (15 : Int) from xeq z) (by omega), fun _ => ?_⟩
    refine ⟨fun z => absurd (show (ps_i s (stc p D.length) 0).toInt = (16 : Int) from xeq z) (by omega), fun _ => ?_⟩
    refine ⟨fun z => absurd (show (ps_i s (stc p D.length) 0).toInt = (17 : Int) from xeq z) (by omega), fun _ => ?_⟩
    refine ⟨fun z => absurd (show (ps_i s (stc p D.length) 0).toInt = (18 : Int) from xeq z) (by omega), fun _ => ?_⟩
    refine ⟨fun z => absurd (show (ps_i s (stc p D.length) 0).toInt = (19 : Int) from xeq z) (by omega), fun _ => ?_⟩
    refine ⟨fun z => absurd (show (ps_i s (stc p D.length) 0).toInt = (20 : Int) from xeq z) (by omega), fun _ => ?_⟩
    refine ⟨fun _ => ?_, fun z => absurd (show (ps_i s (stc p D.length) 0).toInt = (21 : Int) from er) (xne z)⟩
    exact fs_49_r21 hp hi X hD hG B (hpr.1 (of_decide_eq_true rfl)) k
  · have er : (ps_i s (stc p D.length) 0).toInt = (22 : Int) := t0
    have p1 : n1 < D.length := hpr.1 (of_decide_eq_true rfl)
    refine pl_42_0 (fs_37 (j := 0) (i := n1) hp (stc_is hp hi) hl.2.1 rfl (by decide) (t1 (of_decide_eq_true rfl)) (by omega) (pl_nk_i (fun _ => pl_nk_i (fun _ => ?_))))
    rw [(stc_c hp (i := n1) (by omega)).2.2.2.1]
    refine ⟨fun z => absurd (show (ps_i s (stc p D.length) 0).toInt = (6 : Int) from xeq z) (by omega), fun _ => ?_⟩
    refine ⟨fun z => absurd (show (ps_i s (stc p D.length) 0).toInt = (7 : Int) from xeq z) (by omega), fun _ => ?_⟩
    refine ⟨fun z => absurd (show (ps_i s (stc p D.length) 0).toInt = (8 : Int) from xeq z) (by omega), fun _ => ?_⟩
    refine ⟨fun z => absurd (show (ps_i s (stc p D.length) 0).toInt = (9 : Int) from xeq z) (by omega), fun _ => ?_⟩
    refine ⟨fun z => absurd (show (ps_i s (stc p D.length) 0).toInt = (10 : Int) from xeq z) (by omega), fun _ => ?_⟩
    refine ⟨fun z => absurd (show (ps_i s (stc p D.length) 0).toInt = (11 : Int) from xeq z) (by omega), fun _ => ?_⟩
    refine ⟨fun z => absurd (show (ps_i s (stc p D.length) 0).toInt = (12 : Int) from xeq z) (by omega), fun _ => ?_⟩
    refine ⟨fun z => absurd (show (ps_i s (stc p D.length) 0).toInt = (13 : Int) from xeq z) (by omega), fun _ => ?_⟩
    refine ⟨fun z => absurd (show (ps_i s (stc p D.length) 0).toInt = (14 : Int) from xeq z) (by omega), fun _ => ?_⟩
    refine ⟨fun z => absurd (show (ps_i s (stc p D.length) 0).toInt = (15 : Int) from xeq z) (by omega), fun _ => ?_⟩
    refine ⟨fun z => absurd (show (ps_i s (stc p D.length) 0).toInt = (16 : Int) from xeq z) (by omega), fun _ => ?_⟩
    refine ⟨fun z => absurd (show (ps_i s (stc p D.length) 0).toInt = (17 : Int) from xeq z) (by omega), fun _ => ?_⟩
    refine ⟨fun z => absurd (show (ps_i s (stc p D.length) 0).toInt = (18 : Int) from xeq z) (by omega), fun _ => ?_⟩
    refine ⟨fun z => absurd (show (ps_i s (stc p D.length) 0).toInt = (19 : Int) from xeq z) (by omega), fun _ => ?_⟩
    refine ⟨fun z => absurd (show (ps_i s (stc p D.length) 0).toInt = (20 : Int) from xeq z) (by omega), fun _ => ?_⟩
    refine ⟨fun z => absurd (show (ps_i s (stc p D.length) 0).toInt = (21 : Int) from xeq z) (by omega), fun _ => ?_⟩
    refine ⟨fun _ => ?_, fun z => absurd (show (ps_i s (stc p D.length) 0).toInt = (22 : Int) from er) (xne z)⟩
    exact fs_50_r22 hp hi X hD hG B (hpr.1 (of_decide_eq_true rfl)) k
  · have er : (ps_i s (stc p D.length) 0).toInt = (23 : Int) := t0
    have p1 : n1 < D.length := hpr.1 (of_decide_eq_true rfl)
    refine pl_42_0 (fs_37 (j := 0) (i := n1) hp (stc_is hp hi) hl.2.1 rfl (by decide) (t1 (of_decide_eq_true rfl)) (by omega) (pl_nk_i (fun _ => pl_nk_i (fun _ => ?_))))
    rw [(stc_c hp (i := n1) (by omega)).2.2.2.1]
    refine ⟨fun z => absurd (show (ps_i s (stc p D.length) 0).toInt = (6 : Int) from xeq z) (by omega), fun _ => ?_⟩
    refine ⟨fun z => absurd (show (ps_i s (stc p D.length) 0).toInt = (7 : Int) from xeq z) (by omega), fun _ => ?_⟩
    refine ⟨fun z => absurd (show (ps_i s (stc p D.length) 0).toInt = (8 : Int) from xeq z) (by omega), fun _ => ?_⟩
    refine ⟨fun z => absurd (show (ps_i s (stc p D.length) 0).toInt = (9 : Int) from xeq z) (by omega), fun _ => ?_⟩
    refine ⟨fun z => absurd (show (ps_i s (stc p D.length) 0).toInt = (10 : Int) from xeq z) (by omega), fun _ => ?_⟩
    refine ⟨fun z => absurd (show (ps_i s (stc p D.length) 0).toInt = (11 : Int) from xeq z) (by omega), fun _ => ?_⟩
    refine ⟨fun z => absurd (show (ps_i s (stc p D.length) 0).toInt = (12 : Int) from xeq z) (by omega), fun _ => ?_⟩
    refine ⟨fun z => absurd (show (ps_i s (stc p D.length) 0).toInt = (13 : Int) from xeq z) (by omega), fun _ => ?_⟩
    refine ⟨fun z => absurd (show (ps_i s (stc p D.length) 0).toInt = (14 : Int) from xeq z) (by omega), fun _ => ?_⟩
    refine ⟨fun z => absurd (show (ps_i s (stc p D.length) 0).toInt = (15 : Int) from xeq z) (by omega), fun _ => ?_⟩
    refine ⟨fun z => absurd (show (ps_i s (stc p D.length) 0).toInt = (16 : Int) from xeq z) (by omega), fun _ => ?_⟩
    refine ⟨fun z => absurd (show (ps_i s (stc p D.length) 0).toInt = (17 : Int) from xeq z) (by omega), fun _ => ?_⟩
    refine ⟨fun z => absurd (show (ps_i s (stc p D.length) 0).toInt = (18 : Int) from xeq z) (by omega), fun _ => ?_⟩
    refine ⟨fun z => absurd (show (ps_i s (stc p D.length) 0).toInt = (19 : Int) from xeq z) (by omega), fun _ => ?_⟩
    refine ⟨fun z => absurd (show (ps_i s (stc p D.length) 0).toInt = (20 : Int) from xeq z) (by omega), fun _ => ?_⟩
    refine ⟨fun z => absurd (show (ps_i s (stc p D.length) 0).toInt = (21 : Int) from xeq z) (by omega), fun _ => ?_⟩
    refine ⟨fun z => absurd (show (ps_i s (stc p D.length) 0).toInt = (22 : Int) from xeq z) (by omega), fun _ => ?_⟩
    refine ⟨fun _ => ?_, fun z => absurd (show (ps_i s (stc p D.length) 0).toInt = (23 : Int) from er) (xne z)⟩
    exact fs_53_r23 hp hi X hD hG B (hpr.1 (of_decide_eq_true rfl)) k
  · have er : (ps_i s (stc p D.length) 0).toInt = (24 : Int) := t0
    have p1 : n1 < D.length := hpr.1 (of_decide_eq_true rfl)
    have p2 : n2 < D.length := hpr.2.1 (of_decide_eq_true rfl)
    refine pl_42_0 (fs_37 (j := 0) (i := n1) hp (stc_is hp hi) hl.2.1 rfl (by decide) (t1 (of_decide_eq_true rfl)) (by omega) (pl_nk_i (fun _ => pl_nk_i (fun _ => ?_))))
    rw [(stc_c hp (i := n1) (by omega)).2.2.2.1]
    refine ⟨fun z => absurd (show (ps_i s (stc p D.length) 0).toInt = (6 : Int) from xeq z) (by omega), fun _ => ?_⟩
    refine ⟨fun z => absurd (show (ps_i s (stc p D.length) 0).toInt = (7 : Int) from xeq z) (by omega), fun _ => ?_⟩
    refine ⟨fun z => absurd (show (ps_i s (stc p D.length) 0).toInt = (8 : Int) from xeq z) (by omega), fun _ => ?_⟩
    refine ⟨fun z => absurd (show (ps_i s (stc p D.length) 0).toInt = (9 : Int) from xeq z) (by omega), fun _ => ?_⟩
    refine ⟨fun z => absurd (show (ps_i s (stc p D.length) 0).toInt = (10 : Int) from xeq z) (by omega), fun _ => ?_⟩
    refine ⟨fun z => absurd (show (ps_i s (stc p D.length) 0).toInt = (11 : Int) from xeq z) (by omega), fun _ => ?_⟩
    refine ⟨fun z => absurd (show (ps_i s (stc p D.length) 0).toInt = (12 : Int) from xeq z) (by omega), fun _ => ?_⟩
    refine ⟨fun z => absurd (show (ps_i s (stc p D.length) 0).toInt = (13 : Int) from xeq z) (by omega), fun _ => ?_⟩
    refine ⟨fun z => absurd (show (ps_i s (stc p D.length) 0).toInt = (14 : Int) from xeq z) (by omega), fun _ => ?_⟩
    refine ⟨fun z => absurd (show (ps_i s (stc p D.length) 0).toInt = (15 : Int) from xeq z) (by omega), fun _ => ?_⟩
    refine ⟨fun z => absurd (show (ps_i s (stc p D.length) 0).toInt = (16 : Int) from xeq z) (by omega), fun _ => ?_⟩
    refine ⟨fun z => absurd (show (ps_i s (stc p D.length) 0).toInt = (17 : Int) from xeq z) (by omega), fun _ => ?_⟩
    refine ⟨fun z => absurd (show (ps_i s (stc p D.length) 0).toInt = (18 : Int) from xeq z) (by omega), fun _ => ?_⟩
    refine ⟨fun z => absurd (show (ps_i s (stc p D.length) 0).toInt = (19 : Int) from xeq z) (by omega), fun _ => ?_⟩
    refine ⟨fun z => absurd (show (ps_i s (stc p D.length) 0).toInt = (20 : Int) from xeq z) (by omega), fun _ => ?_⟩
    refine ⟨fun z => absurd (show (ps_i s (stc p D.length) 0).toInt = (21 : Int) from xeq z) (by omega), fun _ => ?_⟩
    refine ⟨fun z => absurd (show (ps_i s (stc p D.length) 0).toInt = (22 : Int) from xeq z) (by omega), fun _ => ?_⟩
    refine ⟨fun z => absurd (show (ps_i s (stc p D.length) 0).toInt = (23 : Int) from xeq z) (by omega), fun _ => ?_⟩
    refine ⟨fun _ => ?_, fun z => absurd (show (ps_i s (stc p D.length) 0).toInt = (24 : Int) from er) (xne z)⟩
    refine fs_37 (j := 1) (i := n2) hp (stc_is hp hi) hl.2.1 rfl (by decide) (t2 (of_decide_eq_true rfl)) (by omega) ?_
    exact fs_54_r24 hp hi X hD hG B (hpr.1 (of_decide_eq_true rfl)) (hpr.2.1 (of_decide_eq_true rfl)) k
  · have er : (ps_i s (stc p D.length) 0).toInt = (25 : Int) := t0
    have p1 : n1 < D.length := hpr.1 (of_decide_eq_true rfl)
    have p2 : n2 < D.length := hpr.2.1 (of_decide_eq_true rfl)
    refine pl_42_0 (fs_37 (j := 0) (i := n1) hp (stc_is hp hi) hl.2.1 rfl (by decide) (t1 (of_decide_eq_true rfl)) (by omega) (pl_nk_i (fun _ => pl_nk_i (fun _ => ?_))))
    rw [(stc_c hp (i := n1) (by omega)).2.2.2.1]
    refine ⟨fun z => absurd (show (ps_i s (stc p D.length) 0).toInt = (6 : Int) from xeq z) (by omega), fun _ => ?_⟩
    refine ⟨fun z => absurd (show (ps_i s (stc p D.length) 0).toInt = (7 : Int) from xeq z) (by omega), fun _ => ?_⟩
    refine ⟨fun z => absurd (show (ps_i s (stc p D.length) 0).toInt = (8 : Int) from xeq z) (by omega), fun _ => ?_⟩
    refine ⟨fun z => absurd (show (ps_i s (stc p D.length) 0).toInt = (9 : Int) from xeq z) (by omega), fun _ => ?_⟩
    refine ⟨fun z => absurd (show (ps_i s (stc p D.length) 0).toInt = (10 : Int) from xeq z) (by omega), fun _ => ?_⟩
    refine ⟨fun z => absurd (show (ps_i s (stc p D.length) 0).toInt = (11 : Int) from xeq z) (by omega), fun _ => ?_⟩
    refine ⟨fun z => absurd (show (ps_i s (stc p D.length) 0).toInt = (12 : Int) from xeq z) (by omega), fun _ => ?_⟩
    refine ⟨fun z => absurd (show (ps_i s (stc p D.length) 0).toInt = (13 : Int) from xeq z) (by omega), fun _ => ?_⟩
    refine ⟨fun z => absurd (show (ps_i s (stc p D.length) 0).toInt = (14 : Int) from xeq z) (by omega), fun _ => ?_⟩
    refine ⟨fun z => absurd (show (ps_i s (stc p D.length) 0).toInt = (15 : Int) from xeq z) (by omega), fun _ => ?_⟩
    refine ⟨fun z => absurd (show (ps_i s (stc p D.length) 0).toInt = (16 : Int) from xeq z) (by omega), fun _ => ?_⟩
    refine ⟨fun z => absurd (show (ps_i s (stc p D.length) 0).toInt = (17 : Int) from xeq z) (by omega), fun _ => ?_⟩
    refine ⟨fun z => absurd (show (ps_i s (stc p D.length) 0).toInt = (18 : Int) from xeq z) (by omega), fun _ => ?_⟩
    refine ⟨fun z => absurd (show (ps_i s (stc p D.length) 0).toInt = (19 : Int) from xeq z) (by omega), fun _ => ?_⟩
    refine ⟨fun z => absurd (show (ps_i s (stc p D.length) 0).toInt = (20 : Int) from xeq z) (by omega), fun _ => ?_⟩
    refine ⟨fun z => absurd (show (ps_i s (stc p D.length) 0).toInt = (21 : Int) from xeq z) (by omega), fun _ => ?_⟩
    refine ⟨fun z => absurd (show (ps_i s (stc p D.length) 0).toInt = (22 : Int) from xeq z) (by omega), fun _ => ?_⟩
    refine ⟨fun z => absurd (show (ps_i s (stc p D.length) 0).toInt = (23 : Int) from xeq z) (by omega), fun _ => ?_⟩
    refine ⟨fun z => absurd (show (ps_i s (stc p D.length) 0).toInt = (24 : Int) from xeq z) (by omega), fun _ => ?_⟩
    refine ⟨fun _ => ?_, fun z => absurd (show (ps_i s (stc p D.length) 0).toInt = (25 : Int) from er) (xne z)⟩
    refine fs_37 (j := 1) (i := n2) hp (stc_is hp hi) hl.2.1 rfl (by decide) (t2 (of_decide_eq_true rfl)) (by omega) (pl_nk_i (fun _ => ?_))
    rw [(stc_c hp (i := n2) (by omega)).2.2.2.1]
    exact fs_55_r25 hp hi X hD hG B (hpr.1 (of_decide_eq_true rfl)) (hpr.2.1 (of_decide_eq_true rfl)) k
  · have er : (ps_i s (stc p D.length) 0).toInt = (26 : Int) := t0
    have p1 : n1 < D.length := hpr.1 (of_decide_eq_true rfl)
    refine pl_42_0 (fs_37 (j := 0) (i := n1) hp (stc_is hp hi) hl.2.1 rfl (by decide) (t1 (of_decide_eq_true rfl)) (by omega) (pl_nk_i (fun _ => pl_nk_i (fun _ => ?_))))
    rw [(stc_c hp (i := n1) (by omega)).2.2.2.1]
    refine ⟨fun z => absurd (show (ps_i s (stc p D.length) 0).toInt = (6 : Int) from xeq z) (by omega), fun _ => ?_⟩
    refine ⟨fun z => absurd (show (ps_i s (stc p D.length) 0).toInt = (7 : Int) from xeq z) (by omega), fun _ => ?_⟩
    refine ⟨fun z => absurd (show (ps_i s (stc p D.length) 0).toInt = (8 : Int) from xeq z) (by omega), fun _ => ?_⟩
    refine ⟨fun z => absurd (show (ps_i s (stc p D.length) 0).toInt = (9 : Int) from xeq z) (by omega), fun _ => ?_⟩
    refine ⟨fun z => absurd (show (ps_i s (stc p D.length) 0).toInt = (10 : Int) from xeq z) (by omega), fun _ => ?_⟩
    refine ⟨fun z => absurd (show (ps_i s (stc p D.length) 0).toInt = (11 : Int) from xeq z) (by omega), fun _ => ?_⟩
    refine ⟨fun z => absurd (show (ps_i s (stc p D.length) 0).toInt = (12 : Int) from xeq z) (by omega), fun _ => ?_⟩
    refine ⟨fun z => absurd (show (ps_i s (stc p D.length) 0).toInt = (13 : Int) from xeq z) (by omega), fun _ => ?_⟩
    refine ⟨fun z => absurd (show (ps_i s (stc p D.length) 0).toInt = (14 : Int) from xeq z) (by omega), fun _ => ?_⟩
    refine ⟨fun z => absurd (show (ps_i s (stc p D.length) 0).toInt = (15 : Int) from xeq z) (by omega), fun _ => ?_⟩
    refine ⟨fun z => absurd (show (ps_i s (stc p D.length) 0).toInt = (16 : Int) from xeq z) (by omega), fun _ => ?_⟩
    refine ⟨fun z => absurd (show (ps_i s (stc p D.length) 0).toInt = (17 : Int) from xeq z) (by omega), fun _ => ?_⟩
    refine ⟨fun z => absurd (show (ps_i s (stc p D.length) 0).toInt = (18 : Int) from xeq z) (by omega), fun _ => ?_⟩
    refine ⟨fun z => absurd (show (ps_i s (stc p D.length) 0).toInt = (19 : Int) from xeq z) (by omega), fun _ => ?_⟩
    refine ⟨fun z => absurd (show (ps_i s (stc p D.length) 0).toInt = (20 : Int) from xeq z) (by omega), fun _ => ?_⟩
    refine ⟨fun z => absurd (show (ps_i s (stc p D.length) 0).toInt = (21 : Int) from xeq z) (by omega), fun _ => ?_⟩
    refine ⟨fun z => absurd (show (ps_i s (stc p D.length) 0).toInt = (22 : Int) from xeq z) (by omega), fun _ => ?_⟩
    refine ⟨fun z => absurd (show (ps_i s (stc p D.length) 0).toInt = (23 : Int) from xeq z) (by omega), fun _ => ?_⟩
    refine ⟨fun z => absurd (show (ps_i s (stc p D.length) 0).toInt = (24 : Int) from xeq z) (by omega), fun _ => ?_⟩
    refine ⟨fun z => absurd (show (ps_i s (stc p D.length) 0).toInt = (25 : Int) from xeq z) (by omega), fun _ => ?_⟩
    exact fs_48_r26 hp hi X hD hG B (hpr.1 (of_decide_eq_true rfl)) k
  · have er : (ps_i s (stc p D.length) 0).toInt = (27 : Int) := t0
    have p1 : n1 < D.length := hpr.1 (of_decide_eq_true rfl)
    refine pl_42_0 (fs_37 (j := 0) (i := n1) hp (stc_is hp hi) hl.2.1 rfl (by decide) (t1 (of_decide_eq_true rfl)) (by omega) (pl_nk_i (fun _ => pl_nk_i (fun _ => ?_))))
    rw [(stc_c hp (i := n1) (by omega)).2.2.2.1]
    refine ⟨fun z => absurd (show (ps_i s (stc p D.length) 0).toInt = (6 : Int) from xeq z) (by omega), fun _ => ?_⟩
    refine ⟨fun z => absurd (show (ps_i s (stc p D.length) 0).toInt = (7 : Int) from xeq z) (by omega), fun _ => ?_⟩
    refine ⟨fun z => absurd (show (ps_i s (stc p D.length) 0).toInt = (8 : Int) from xeq z) (by omega), fun _ => ?_⟩
    refine ⟨fun z => absurd (show (ps_i s (stc p D.length) 0).toInt = (9 : Int) from xeq z) (by omega), fun _ => ?_⟩
    refine ⟨fun z => absurd (show (ps_i s (stc p D.length) 0).toInt = (10 : Int) from xeq z) (by omega), fun _ => ?_⟩
    refine ⟨fun z => absurd (show (ps_i s (stc p D.length) 0).toInt = (11 : Int) from xeq z) (by omega), fun _ => ?_⟩
    refine ⟨fun z => absurd (show (ps_i s (stc p D.length) 0).toInt = (12 : Int) from xeq z) (by omega), fun _ => ?_⟩
    refine ⟨fun z => absurd (show (ps_i s (stc p D.length) 0).toInt = (13 : Int) from xeq z) (by omega), fun _ => ?_⟩
    refine ⟨fun z => absurd (show (ps_i s (stc p D.length) 0).toInt = (14 : Int) from xeq z) (by omega), fun _ => ?_⟩
    refine ⟨fun z => absurd (show (ps_i s (stc p D.length) 0).toInt = (15 : Int) from xeq z) (by omega), fun _ => ?_⟩
    refine ⟨fun z => absurd (show (ps_i s (stc p D.length) 0).toInt = (16 : Int) from xeq z) (by omega), fun _ => ?_⟩
    refine ⟨fun z => absurd (show (ps_i s (stc p D.length) 0).toInt = (17 : Int) from xeq z) (by omega), fun _ => ?_⟩
    refine ⟨fun z => absurd (show (ps_i s (stc p D.length) 0).toInt = (18 : Int) from xeq z) (by omega), fun _ => ?_⟩
    refine ⟨fun z => absurd (show (ps_i s (stc p D.length) 0).toInt = (19 : Int) from xeq z) (by omega), fun _ => ?_⟩
    refine ⟨fun z => absurd (show (ps_i s (stc p D.length) 0).toInt = (20 : Int) from xeq z) (by omega), fun _ => ?_⟩
    refine ⟨fun z => absurd (show (ps_i s (stc p D.length) 0).toInt = (21 : Int) from xeq z) (by omega), fun _ => ?_⟩
    refine ⟨fun z => absurd (show (ps_i s (stc p D.length) 0).toInt = (22 : Int) from xeq z) (by omega), fun _ => ?_⟩
    refine ⟨fun z => absurd (show (ps_i s (stc p D.length) 0).toInt = (23 : Int) from xeq z) (by omega), fun _ => ?_⟩
    refine ⟨fun z => absurd (show (ps_i s (stc p D.length) 0).toInt = (24 : Int) from xeq z) (by omega), fun _ => ?_⟩
    refine ⟨fun z => absurd (show (ps_i s (stc p D.length) 0).toInt = (25 : Int) from xeq z) (by omega), fun _ => ?_⟩
    exact fs_48_r27 hp hi X hD hG B (hpr.1 (of_decide_eq_true rfl)) k
end S42

/-- too much: pieces, depth, or what is assumed -/
theorem fs_41 {n p i th : Nat} {g : tx_g} {L : List Nat} {b12 : Prop} {s : ps_S} {R : Int32 → ps_S → Prop} (hp : p = 50 ∨ p = 460) (hi : i < 40) (hth : th = 2 ∨ th = 26) (h6 : ps_r s p 6 = th) (H : cv_E s th g) (hw : L.length ≤ 40 → ws (sg g) L [true]) (W : CW s (stc p i + 6) L) (hb : ps_i s (stc p i) 9 = 0 ↔ b12) (k1 : ∀ s', (¬ (L.length ≤ 40 ∧ b12 ∧ dp (arh g) L)) ∧ cfr (CSh (p + 16)) s s' → R 1 s') (k0 : ∀ s', (L.length ≤ 40 ∧ b12 ∧ dp (arh g) L) ∧ cfr (CSh (p + 16)) s s' → R 0 s') : pl_Cl n 41 [.ref p, .ref (stc p i)] s (ps_rI R) := by
  cases n with
  | zero => exact pl_At_0
  | succ n =>
  show pl_At (n + 1) 41 0 [(0, .ref p), (1, .ref (stc p i))] [] s (ps_rI R)
  obtain ⟨-, -, ⟨-, -, -, -, -, c5⟩, -, -, -, i6, -⟩ := prf hp
  have hl := stc_lt hp hi
  obtain ⟨cc1, cc4, cc5, cc6, cc8⟩ := stc_c hp hi
  refine pl_41_0 (pl_nk_i (fun _ => ?_))
  rw [cc6]
  refine pl_nk_i (fun _ => ⟨fun z => ?_, fun z => pl_nk_i (fun _ => ⟨fun z2 => ?_, fun z2 => ?_⟩)⟩)
  · exact k1 s ⟨fun y => z (W.2.1 y.1).2.1, cfr_refl⟩
  · have h40 : L.length ≤ 40 := by
      rcases Nat.lt_or_ge 40 L.length with y | y
      · exact absurd z (W.2.2 y)
      · exact y
    refine pl_nk_i (fun _ => pl_nk_i (fun _ => pl_nk_i (fun _ => ?_)))
    rw [c5, h6]
    refine fs_103 (r := p + 16) (r1 := stc p i + 6) (l := L) i6 (stc_row hp hi).2.2 hth (by omega) (hw h40) (Or.inl rfl) (W.2.1 h40) H (fun s1 Z F1 => pl_nk_i (fun _ => ?_))
    exact fs_106 i6 Z.2 (fun u => pl_nk_i (fun _ => k1 s1 ⟨fun y => u y.2.2, F1⟩)) (fun u => pl_nk_i (fun _ => k0 s1 ⟨⟨h40, hb.mp z2, u⟩, F1⟩))
  · exact k1 s ⟨fun y => z2 (hb.mpr y.2.1), cfr_refl⟩
/-! premise by premise -/
def pr_k (st : tp_P) (k : Nat) : Nat := if k = 0 then st.1.2.1 else if k = 1 then st.1.2.2.1 else st.1.2.2.2
def ou_k (o : List Nat × (List Nat × List Nat)) (k : Nat) : List Nat := if k = 0 then o.1 else if k = 1 then o.2.1 else o.2.2
def tq_zi (D : List tq_R) (F : tq_R → Int32) (z : Int32) (st : tp_P) : Nat → Int32
  | 0 => z
  | k + 1 => tq_zi D F z st k ||| F (D.getD (pr_k st k) ([], [], 0, 0, 0))
def tq_zj (D : List tq_R) (F : tq_R → Int64) (z : Int64) (st : tp_P) : Nat → Int64
  | 0 => z
  | k + 1 => tq_zj D F z st k ||| F (D.getD (pr_k st k) ([], [], 0, 0, 0))
def tq_za (D : List tq_R) (st : tp_P) (o : List Nat × (List Nat × List Nat)) : Nat → List (List Nat)
  | 0 => []
  | k + 1 => tq_ga (ou_k o k) (tq_za D st o k) (tq_a D (pr_k st k))
theorem tq_np_le {r : Nat} : tq_np r ≤ 3 := by
  unfold tq_np
  split
  · decide
  · exact tp_nn_le
theorem tq_zi_is {D : List tq_R} {F : tq_R → Int32} {z : Int32} {st : tp_P} : tq_or D F z st = tq_zi D F z st (tq_np st.1.1) := by
  unfold tq_or
  have h3 := tq_np_le (r := st.1.1)
  generalize tq_np st.1.1 = m at *
  rcases (show m = 0 ∨ m = 1 ∨ m = 2 ∨ m = 3 by omega) with rfl | rfl | rfl | rfl <;> rfl
theorem tq_zj_is {D : List tq_R} {F : tq_R → Int64} {z : Int64} {st : tp_P} : tq_oj D F z st = tq_zj D F z st (tq_np st.1.1) := by
  unfold tq_oj
  have h3 := tq_np_le (r := st.1.1)
  generalize tq_np st.1.1 = m at *
  rcases (show m = 0 ∨ m = 1 ∨ m = 2 ∨ m = 3 by omega) with rfl | rfl | rfl | rfl <;> rfl
theorem tq_za_is {D : List tq_R} {st : tp_P} {o : List Nat × (List Nat × List Nat)} (h11 : st.1.1 ≠ 11) : tq_as D st o = tq_za D st o (tq_np st.1.1) := by
  unfold tq_as
  rw [if_neg h11]
  have h3 := tq_np_le (r := st.1.1)
  generalize tq_np st.1.1 = m at *
  rcases (show m = 0 ∨ m = 1 ∨ m = 2 ∨ m = 3 by omega) with rfl | rfl | rfl | rfl <;> rfl
/-- premises that are there -/
theorem pr_lt_k {Θ : List tq_H} {D : List tq_R} {st : tp_P} (h : tq_pr Θ D st) {k : Nat} (hk : k < tq_np st.1.1) : pr_k st k < D.length ∧ k < tp_nn st.1.1 := by
  have h12 : st.1.1 ≠ 12 := fun e => by
    unfold tq_np at hk
    rw [if_pos e] at hk
    omega
  have e : tq_np st.1.1 = tp_nn st.1.1 := by
    unfold tq_np
    rw [if_neg h12]
  unfold tq_pr at h
  rw [if_neg h12] at h
  have h3 := tp_nn_le (r := st.1.1)
  refine ⟨?_, by omega⟩
  unfold pr_k
  rcases (show k = 0 ∨ k = 1 ∨ k = 2 by omega) with rfl | rfl | rfl
  · exact h.1 (by omega)
  · exact h.2.1 (by omega)
  · exact h.2.2 (by omega)
theorem cpN_k {s : ps_S} {t : Nat} {st : tp_P} (N : cpN s t st) {k : Nat} (hk : k < tp_nn st.1.1) : (ps_a s (t + 1) k).toInt = pr_k st k ∧ k < 3 := by
  have h3 := tp_nn_le (r := st.1.1)
  refine ⟨?_, by omega⟩
  unfold pr_k
  rcases (show k = 0 ∨ k = 1 ∨ k = 2 by omega) with rfl | rfl | rfl
  · exact N.2.1 (by omega)
  · exact N.2.2.1 (by omega)
  · exact N.2.2.2 (by omega)
/-- what stands when k premises are gone through -/
def cpI (s : ps_S) (p : Nat) (h : tx_H) (Θ : List tq_H) (D : List tq_R) (st : tp_P) (k : Nat) : Prop := (CW s (stc p D.length + 6) (tq_mk h Θ D st).2.1 ∧ ∀ j, j < 3 → CW s (otc p j) (ou_k (tq_mk h Θ D st).2.2 j)) ∧ (ps_i s (stc p D.length) 10 = tq_zi D (fun q => q.2.2.1) (if st.1.1 = 10 then tq_b st.2.1.1 else 0) st k ∧ ps_i s (stc p D.length) 11 = tq_zi D (fun q => q.2.2.2.1) (if st.1.1 = 12 then tq_b st.1.2.1 else 0) st k ∧ ps_j s (stc p D.length) 12 = tq_zj D (fun q => q.2.2.2.2) ((1 : Int64) <<< (Int32.toInt64 (nI D.length) &&& 63)) st k) ∧ (st.1.1 ≠ 11 → PA s (stc p D.length) D (tq_za D st (tq_mk h Θ D st).2.2 k)) ∧ (st.1.1 = 11 → (ps_i s (stc p D.length) 8).toInt = 1 ∧ ps_i s (stc p D.length) 9 = 0 ∧ (ps_a s (stc p D.length + 8) 0).toInt = D.length) ∧ cpN s (stc p D.length) st
section S35
variable {p th : Nat} {h : tx_H} {Θ : List tq_H} {D : List tq_R} {st : tp_P} {s0 : ps_S} {R : Int32 → ps_S → Prop}
theorem CTO_X {s : ps_S} (hp : p = 50 ∨ p = 460) (hi : D.length < 40) (X : cpX s0 p th h Θ D st) (F : cfr (CTO p D.length) s0 s) : (cv_H s th h ∧ ps_r s p 6 = th) ∧ cSh s 870 Θ ∧ cpD s p D ∧ cv_W s (p + 12) [] := by
  obtain ⟨⟨x1, x2, x3⟩, x4, x5, x6, x7⟩ := X
  have hl := stc_lt hp hi
  have h8 := x1.2.2.1
  exact ⟨⟨cv_H_cfr x1 F (fun q a b => by unfold CTO; omega), by rw [(F p (by unfold CTO; omega)).2.2.1]; exact x2⟩, cSh_cfr x4 F (fun q a b => by unfold CTO; omega), cpD_cfr x5 F (fun q a b => by unfold CTO; unfold stc at *; omega), cv_W_cfr x7 F (by unfold CTO; omega) (by unfold CTO; omega)⟩
theorem fs_35_73 (hp : p = 50 ∨ p = 460) (hi : D.length < 40) (X : cpX s0 p th h Θ D st) (hD : tq_GD h.1 D) (hG : tp_G h.1 h.2.length st) (hpr : tq_pr Θ D st) (hw : (tq_mk h Θ D st).2.1.length ≤ 40 → ws (sg h.1) (tq_mk h Θ D st).2.1 [true]) (hm0 : (tq_mk h Θ D st).1 = 0) (k : ∀ (v : Int32) s', (v.toInt = tq_cs h Θ D st ∧ (tq_cs h Θ D st = 0 → cpD s' p (D ++ [tq_res h Θ D st])) ∧ cfr (CTO p D.length) s0 s') → R v s') : ∀ (n : Nat) {s : ps_S} {x5 : Int32} {m : Nat}, x5.toInt = m → m ≤ tq_np st.1.1 → cpI s p h Θ D st m → cfr (CTO p D.length) s0 s → pl_At n 35 73 [(0, .ref p), (3, .ref (stc p D.length)), (5, .int x5)] [] s (ps_rI R)
  | 0, _, _, _, _, _, _, _ => pl_At_0
  | n + 1, s, x5, m, hx, hm, I, F => by
    have hl := stc_lt hp hi
    have h3 := tq_np_le (r := st.1.1)
    obtain ⟨⟨y1, y2⟩, y4, y5, y7⟩ := CTO_X hp hi X F
    obtain ⟨⟨i1, i2⟩, ⟨i3, i4, i5⟩, i6, i7, i8⟩ := id I
    have hth := X.1.2.2
    refine pl_35_73 (pl_nk_i (fun _ => fs_116 i8.1 hG.1 (fun v1 q1 => ⟨fun z => ?_, fun z => ?_⟩)))
    · have z := xle z
      have em : m = tq_np st.1.1 := by omega
      subst em
      have eres : tq_res h Θ D st = ((tq_mk h Θ D st).2.1, tq_as D st (tq_mk h Θ D st).2.2, ps_i s (stc p D.length) 10, ps_i s (stc p D.length) 11, ps_j s (stc p D.length) 12) := by
        unfold tq_res
        rw [tq_zi_is, tq_zi_is, tq_zj_is, ← i3, ← i4, ← i5]
      have hb : ps_i s (stc p D.length) 9 = 0 ↔ (tq_as D st (tq_mk h Θ D st).2.2).length ≤ 12 := by
        by_cases e11 : st.1.1 = 11
        · have ea : tq_as D st (tq_mk h Θ D st).2.2 = [st.2.2.2] := by unfold tq_as; rw [if_pos e11]
          rw [ea]
          exact ⟨fun _ => (show 1 ≤ 12 from by decide), fun _ => (i7 e11).2.1⟩
        · have P := i6 e11
          rw [← tq_za_is e11] at P
          constructor
          · intro e
            rcases Nat.lt_or_ge 12 (tq_as D st (tq_mk h Θ D st).2.2).length with u | u
            · exact absurd e (P.2.2.2.1 u)
            · exact u
          · exact P.2.2.1
      refine fs_41 hp hi hth y2 y1.1 hw i1 hb (fun s2 q => ⟨fun u => absurd u (by decide), fun _ => ?_⟩) (fun s2 q => ⟨fun _ => ?_, fun u => absurd rfl u⟩)
      · obtain ⟨q, F2⟩ := q
        have hc := tq_cs_5 (h := h) hpr hm0 (fun w : tq_fit h (tq_res h Θ D st) => q ⟨w.1, w.2.1, w.2.2⟩)
        refine k _ _ ⟨by rw [hc]; rfl, fun e => absurd e (by rw [hc]; decide), cfr_tr F (cfr_mono F2 CSh_CTO)⟩
      · obtain ⟨q, F2⟩ := q
        have hfit : tq_fit h (tq_res h Θ D st) := ⟨q.1, q.2.1, q.2.2⟩
        have hc := tq_cs_0 hpr hm0 hfit
        refine k _ _ ⟨by rw [hc]; rfl, fun _ => ?_, cfr_tr F (cfr_mono F2 CSh_CTO)⟩
        have hlen : (D ++ [tq_res h Θ D st]).length = D.length + 1 := List.length_append
        refine ⟨by omega, fun kk Rk hk => ?_⟩
        have y52 := cpD_cfr y5 F2 (fun q a b => by unfold CSh; unfold stc at *; omega)
        have ext : ∀ {o : Nat} {q : tq_R}, D[o]? = some q → (D ++ [tq_res h Θ D st])[o]? = some q := fun {o q} e => by
          rw [List.getElem?_append_left (List.getElem?_eq_some_iff.mp e).1]
          exact e
        rcases Nat.lt_or_ge kk D.length with u | u
        · rw [List.getElem?_append_left u] at hk
          obtain ⟨a1, a2, a3, a4, a5⟩ := y52.2 kk Rk hk
          refine ⟨a1, a2, a3, fun n' y hy => ?_, a5⟩
          obtain ⟨o, q, e1, e2, e3⟩ := a4 n' y hy
          exact ⟨o, q, e1, ext e2, e3⟩
        · have hkl := (List.getElem?_eq_some_iff.mp hk).1
          have ek : kk = D.length := by omega
          subst ek
          rw [List.getElem?_append_right (Nat.le_refl _), Nat.sub_self] at hk
          have eR : tq_res h Θ D st = Rk := Option.some.inj hk
          rw [← eR, eres]
          have f0 := F2 (stc p D.length) (by unfold CSh; omega)
          have f8 := F2 (stc p D.length + 8) (by unfold CSh; omega)
          refine ⟨cv_W_cfr (i1.2.1 q.1) F2 (by unfold CSh; omega) (by unfold CSh; omega), ?_, q.2.1, fun n' y hy => ?_, by rw [f0.1], by rw [f0.1], by rw [f0.2.1]⟩
          · rw [f0.1]
            by_cases e11 : st.1.1 = 11
            · have ea : tq_as D st (tq_mk h Θ D st).2.2 = [st.2.2.2] := by unfold tq_as; rw [if_pos e11]
              show _ = ((tq_as D st (tq_mk h Θ D st).2.2).length : Int)
              rw [ea]
              exact (i7 e11).1
            · have P := i6 e11
              rw [← tq_za_is e11] at P
              show _ = ((tq_as D st (tq_mk h Θ D st).2.2).length : Int)
              have := P.1
              have q21 : (tq_as D st (tq_mk h Θ D st).2.2).length ≤ 12 := q.2.1
              omega
          · rw [f8.2.2.2.1]
            have hy : (tq_as D st (tq_mk h Θ D st).2.2)[n']? = some y := hy
            by_cases e11 : st.1.1 = 11
            · have ea : tq_as D st (tq_mk h Θ D st).2.2 = [st.2.2.2] := by unfold tq_as; rw [if_pos e11]
              rw [ea] at hy
              have hn := (List.getElem?_eq_some_iff.mp hy).1
              have en : n' = 0 := by rw [List.length_singleton] at hn; omega
              subst en
              cases hy
              refine ⟨D.length, tq_res h Θ D st, (i7 e11).2.2, by rw [List.getElem?_append_right (Nat.le_refl _), Nat.sub_self, ← eres]; rfl, ?_⟩
              obtain ⟨⟨r, n1, n2, n3⟩, ⟨ax, x⟩, tt, f⟩ := st
              have e11 : r = 11 := e11
              subst e11
              rfl
            · have P := i6 e11
              rw [← tq_za_is e11] at P
              have hn := (List.getElem?_eq_some_iff.mp hy).1
              have q21 : (tq_as D st (tq_mk h Θ D st).2.2).length ≤ 12 := q.2.1
              obtain ⟨o, q', e1, e2, e3⟩ := P.2.2.2.2 n' y (by omega) hy
              exact ⟨o, q', e1, by rw [← eres]; exact ext e2, e3⟩
    · have z := xlt z
      have hmn : m < tq_np st.1.1 := by omega
      obtain ⟨hlt, hnn⟩ := pr_lt_k hpr hmn
      obtain ⟨en, hm3⟩ := cpN_k i8 hnn
      obtain ⟨Rm, e1, e2, e3, e4⟩ := tq_at hlt
      have hRm := y5.2 (pr_k st m) Rm e1
      have hne : stc p (pr_k st m) ≠ stc p D.length := by unfold stc; omega
      have hne8 : stc p (pr_k st m) + 9 ≤ stc p D.length := by unfold stc; omega
      have e11 : st.1.1 ≠ 11 := fun e => by
        rw [e] at hmn
        exact absurd hmn (Nat.not_lt_zero _)
      have P := i6 e11
      refine fs_37 (j := m) (i := pr_k st m) hp (stc_is hp hi) hl.2.1 hx hm3 en (by omega) ?_
      refine fs_124 hne ?_
      have G : ∀ q, q ≠ stc p D.length → (∀ f, ps_i (ps_uj (ps_ui (ps_ui s (stc p D.length) 10 (ps_i s (stc p D.length) 10 ||| ps_i s (stc p (pr_k st m)) 10)) (stc p D.length) 11 (ps_i s (stc p D.length) 11 ||| ps_i s (stc p (pr_k st m)) 11)) (stc p D.length) 12 (ps_j s (stc p D.length) 12 ||| ps_j s (stc p (pr_k st m)) 12)) q f = ps_i s q f) := fun q hq f => by
        show ps_i (ps_ui (ps_ui s _ 10 _) _ 11 _) q f = _
        rw [ps_i_ui, if_neg (by omega), ps_i_ui, if_neg (by omega)]
      generalize hs3 : (ps_uj (ps_ui (ps_ui s (stc p D.length) 10 (ps_i s (stc p D.length) 10 ||| ps_i s (stc p (pr_k st m)) 10)) (stc p D.length) 11 (ps_i s (stc p D.length) 11 ||| ps_i s (stc p (pr_k st m)) 11)) (stc p D.length) 12 (ps_j s (stc p D.length) 12 ||| ps_j s (stc p (pr_k st m)) 12)) = s3
      have F3 : cfr (fun q => q = stc p D.length) s s3 := by
        rw [← hs3]
        exact cfr_j (cfr_i (cfr_i cfr_refl rfl) rfl) rfl
      have g10 : ps_i s3 (stc p D.length) 10 = ps_i s (stc p D.length) 10 ||| Rm.2.2.1 := by
        rw [← hs3, ← hRm.2.2.2.2.1]
        show ps_i (ps_ui (ps_ui s _ 10 _) _ 11 _) _ 10 = _
        rw [ps_i_ui, if_neg (by omega), ps_i_ui, if_pos ⟨rfl, rfl⟩]
      have g11 : ps_i s3 (stc p D.length) 11 = ps_i s (stc p D.length) 11 ||| Rm.2.2.2.1 := by
        rw [← hs3, ← hRm.2.2.2.2.2.1]
        show ps_i (ps_ui (ps_ui s _ 10 _) _ 11 _) _ 11 = _
        rw [ps_i_ui, if_pos ⟨rfl, rfl⟩]
      have g12 : ps_j s3 (stc p D.length) 12 = ps_j s (stc p D.length) 12 ||| Rm.2.2.2.2 := by
        rw [← hs3, ← hRm.2.2.2.2.2.2, ps_j_uj, if_pos ⟨rfl, rfl⟩]
      have gf : ∀ f, f ≠ 10 → f ≠ 11 → ps_i s3 (stc p D.length) f = ps_i s (stc p D.length) f := fun f h10 h11 => by
        rw [← hs3]
        show ps_i (ps_ui (ps_ui s _ 10 _) _ 11 _) _ f = _
        rw [ps_i_ui, if_neg (by omega), ps_i_ui, if_neg (by omega)]
      clear hs3 G
      have y53 := cpD_cfr y5 F3 (fun q a b => by unfold stc at *; omega)
      have P3 : PA s3 (stc p D.length) D (tq_za D st (tq_mk h Θ D st).2.2 m) := by
        obtain ⟨p1, p2, p3, p4, p5⟩ := P
        refine ⟨by rw [gf 8 (by decide) (by decide)]; exact p1, p2, fun u => by rw [gf 9 (by decide) (by decide)]; exact p3 u, fun u => by rw [gf 9 (by decide) (by decide)]; exact p4 u, fun n' y hn hy => ?_⟩
        rw [(F3 (stc p D.length + 8) (by omega)).2.2.2.1]
        exact p5 n' y hn hy
      have N3 : cpN s3 (stc p D.length) st := cpN_eq i8 (gf 0 (by decide) (by decide)) (F3 (stc p D.length + 1) (by omega)).2.2.2.1
      obtain ⟨en3, -⟩ := cpN_k N3 hnn
      refine fs_37 (j := m) (i := pr_k st m) hp (stc_is hp hi) hl.2.1 hx hm3 en3 (by omega) ?_
      refine fs_38 (i := m) hp hx hm3 ?_
      refine fs_39 (j := pr_k st m) (Rj := Rm) (oo := ou_k (tq_mk h Θ D st).2.2 m) hp hi y53 (Nat.le_refl _) e1 ((prf hp).2.1 m hm3).2 (CW_cfr (i2 m hm3) F3 (by unfold otc; omega) (by unfold otc; omega)) (by unfold otc; omega) P3 (fun s7 P7 Q7 => ?_)
      have F7 : cfr (CST p D.length) s s7 := cfr_tr (cfr_mono F3 (fun q z => Or.inl z)) Q7.1
      refine fs_35_73 hp hi X hD hG hpr hw hm0 k n (xj1 hx (by omega)) (by omega) ⟨⟨CW_cfr i1 F7 (by unfold CST; omega) (by unfold CST; omega), fun j hj => CW_cfr (i2 j hj) F7 (by unfold CST otc; omega) (by unfold CST otc; omega)⟩, ⟨?_, ?_, ?_⟩, fun _ => ?_, fun e => absurd e e11, cpN_eq N3 (Q7.2.1 0 (by decide) (by decide)) (Q7.1 (stc p D.length + 1) (by unfold CST; omega)).2.2.2.1⟩ (cfr_tr F (cfr_mono F7 (fun q z => by unfold CST at z; unfold CTO; omega)))
      · rw [Q7.2.1 10 (by decide) (by decide), g10, i3]
        show _ = tq_zi D _ _ st m ||| (D.getD (pr_k st m) ([], [], 0, 0, 0)).2.2.1
        rw [e4]
      · rw [Q7.2.1 11 (by decide) (by decide), g11, i4]
        show _ = tq_zi D _ _ st m ||| (D.getD (pr_k st m) ([], [], 0, 0, 0)).2.2.2.1
        rw [e4]
      · rw [Q7.2.2, g12, i5]
        show _ = tq_zj D _ _ st m ||| (D.getD (pr_k st m) ([], [], 0, 0, 0)).2.2.2.2
        rw [e4]
      · show PA s7 _ D (tq_ga _ _ (tq_a D (pr_k st m)))
        rw [e3]
        exact P7
/-- what begins a step: what is left out is cleared -/
theorem fs_35_21 {x1 : Int32} (hp : p = 50 ∨ p = 460) (hi : D.length < 40) (X : cpX s0 p th h Θ D st) (B0 : (ps_i s0 (stc p D.length) 8).toInt = 0 ∧ ps_i s0 (stc p D.length) 9 = 0 ∧ ps_i s0 (stc p D.length) 10 = 0 ∧ ps_i s0 (stc p D.length) 11 = 0) (hD : tq_GD h.1 D) (hT : tq_GT h.1 Θ) (hwt : WFt h) (hG : tp_G h.1 h.2.length st) (hpr : tq_pr Θ D st) (hx1 : x1.toInt = D.length) (k : ∀ (v : Int32) s', (v.toInt = tq_cs h Θ D st ∧ (tq_cs h Θ D st = 0 → cpD s' p (D ++ [tq_res h Θ D st])) ∧ cfr (CTO p D.length) s0 s') → R v s') : ∀ (n : Nat) {s : ps_S} {x4 : Int32} {m : Nat}, x4.toInt = m → m ≤ 3 → (∀ j, j < m → CW s (otc p j) []) → cfr (fun q => p + 404 ≤ q ∧ q ≤ p + 409) s0 s → pl_At n 35 21 [(0, .ref p), (1, .int x1), (2, .ref 870), (3, .ref (stc p D.length)), (4, .int x4)] [] s (ps_rI R)
  | 0, _, _, _, _, _, _, _ => pl_At_0
  | n + 1, s, x4, m, hx, hm, hj, F => by
    have hl := stc_lt hp hi
    obtain ⟨-, -, ⟨-, -, c2, -⟩, ⟨-, l1⟩, -⟩ := prf hp
    have t3 : (nI (ps_ln (ps_c0 p 2))).toInt = 3 := by rw [c2, l1]; decide
    have FT : cfr (CTO p D.length) s0 s := cfr_mono F (fun q z => Or.inr (Or.inl z))
    refine pl_35_21 (pl_nk_i (fun _ => pl_nk_i (fun _ => ⟨fun z => ?_, fun z => ?_⟩)))
    · have z := xle z
      have em : m = 3 := by omega
      subst em
      have X1 : cpX s p th h Θ D st := by
        obtain ⟨⟨x1', x2', x3'⟩, x4', x5', x6', x7'⟩ := X
        have h8 := x1'.2.2.1
        exact ⟨⟨cv_H_cfr x1' F (fun q a b c => by omega), by rw [(F p (by omega)).2.2.1]; exact x2', x3'⟩, cSh_cfr x4' F (fun q a b c => by omega), cpD_cfr x5' F (fun q a b c => by unfold stc at *; omega), cpT_cfr x6' F (fun q a b c => by omega), cv_W_cfr x7' F (by omega) (by omega)⟩
      have f0 := F (stc p D.length) (by omega)
      have B : cpB s p (stc p D.length) := ⟨hj, by rw [f0.1]; exact B0.1, by rw [f0.1]; exact B0.2.1, by rw [f0.1]; exact B0.2.2.1, by rw [f0.1]; exact B0.2.2.2⟩
      refine fs_42 hp hi X1 hD hG B hpr hx1 (fun v1 s1 K => ⟨fun z1 => ?_, fun z1 => ?_⟩)
      · have z1 := xeq z1
        obtain ⟨kv, km, F1⟩ := K
        have hm0 : (tq_mk h Θ D st).1 = 0 := by
          have t0 : (0 : Int32).toInt = 0 := Int32.toInt_zero
          omega
        obtain ⟨m1, ⟨m2, m3, m4⟩, ⟨m5, m6⟩, m7, m8, m9⟩ := km hm0
        refine pl_nk_i (fun _ => ?_)
        have F2 : cfr (fun q => q = stc p D.length) s1 (ps_uj s1 (stc p D.length) 12 ((1 : Int64) <<< (Int32.toInt64 x1 &&& 63))) := cfr_j cfr_refl rfl
        refine fs_35_73 hp hi X hD hG hpr (fun _ => tq_mk_ws hwt hG hpr hD hT hm0) hm0 k n (m := 0) rfl (Nat.zero_le _) ⟨⟨CW_cfr m1 F2 (by omega) (by omega), fun j hj3 => ?_⟩, ⟨m5, m6, ?_⟩, fun e => ?_, fun e => m8 e, m9⟩ (cfr_tr FT (cfr_tr F1 (cfr_mono F2 (fun q z => Or.inl (by omega)))))
        · rcases (show j = 0 ∨ j = 1 ∨ j = 2 by omega) with rfl | rfl | rfl
          · exact CW_cfr m2 F2 (by unfold otc; omega) (by unfold otc; omega)
          · exact CW_cfr m3 F2 (by unfold otc; omega) (by unfold otc; omega)
          · exact CW_cfr m4 F2 (by unfold otc; omega) (by unfold otc; omega)
        · rw [ps_j_uj, if_pos ⟨rfl, rfl⟩, xnI hx1]
          rfl
        · exact m7 e
      · have z1 := xne z1
        obtain ⟨kv, km, F1⟩ := K
        have hm0 : (tq_mk h Θ D st).1 ≠ 0 := fun e => by
          have t0 : (0 : Int32).toInt = 0 := Int32.toInt_zero
          rw [e] at kv
          exact z1 (kv.trans t0.symm)
        have hc := tq_cs_m hpr hm0
        exact k _ _ ⟨by rw [hc]; exact kv, fun e => absurd (hc.symm.trans e) hm0, cfr_tr FT F1⟩
    · have z := xlt z
      refine fs_38 (i := m) hp hx (by omega) (fs_91 ?_)
      refine fs_35_21 hp hi X B0 hD hT hwt hG hpr hx1 k n (xj1 hx (by omega)) (by omega) (fun j hj2 => ?_) (cfr_i (cfr_i F (by unfold otc; omega)) (by unfold otc; omega))
      by_cases e : j = m
      · rw [e]
        exact CW_of CW_0
      · exact CW_cfr (hj j (by omega)) (cfr_i (cfr_i cfr_refl rfl) rfl : cfr (fun q => q = otc p m) _ _) (by unfold otc; omega) (by unfold otc; omega)
theorem fs_35 {n : Nat} {x1 : Int32} (hp : p = 50 ∨ p = 460) (hi : D.length < 40) (X : cpX s0 p th h Θ D st) (B0 : (ps_i s0 (stc p D.length) 8).toInt = 0 ∧ ps_i s0 (stc p D.length) 9 = 0 ∧ ps_i s0 (stc p D.length) 10 = 0 ∧ ps_i s0 (stc p D.length) 11 = 0) (hD : tq_GD h.1 D) (hT : tq_GT h.1 Θ) (hwt : WFt h) (hG : tp_G h.1 h.2.length st) (hx1 : x1.toInt = D.length) (k : ∀ (v : Int32) s', (v.toInt = tq_cs h Θ D st ∧ (tq_cs h Θ D st = 0 → cpD s' p (D ++ [tq_res h Θ D st])) ∧ cfr (CTO p D.length) s0 s') → R v s') : pl_Cl n 35 [.ref p, .int x1, .ref 870] s0 (ps_rI R) := by
  cases n with
  | zero => exact pl_At_0
  | succ n =>
  show pl_At (n + 1) 35 0 [(0, .ref p), (1, .int x1), (2, .ref 870)] [] s0 (ps_rI R)
  refine pl_35_0 (fs_33 hp hx1 hi ?_)
  refine fs_36 hp hi X.2.2.2.1 X.2.1 hG.1 hx1 (fun y => ⟨fun _ => ?_, fun z => absurd z (by decide)⟩) (fun y => ⟨fun z => absurd rfl z, fun _ => ?_⟩)
  · exact fs_35_21 hp hi X B0 hD hT hwt hG y hx1 k n (m := 0) rfl (Nat.zero_le _) (fun j hj => absurd hj (Nat.not_lt_zero _)) cfr_refl
  · have hc := tq_cs_1 (h := h) y
    exact k _ _ ⟨by rw [hc]; rfl, fun e => absurd e (by rw [hc]; decide), cfr_refl⟩
end S35
/-! the steps, one after the other -/
/-- the steps as they were read, not yet taken -/
def cpW (s : ps_S) (p : Nat) (L : List tp_P) (m : Nat) : Prop := ∀ (k : Nat) (st : tp_P), m ≤ k → L[k]? = some st → cpT s (stc p k) st ∧ (ps_i s (stc p k) 8).toInt = 0 ∧ ps_i s (stc p k) 9 = 0 ∧ ps_i s (stc p k) 10 = 0 ∧ ps_i s (stc p k) 11 = 0
/-- a proof as it stands -/
def cpP (s : ps_S) (p : Nat) (D : List tq_R) (c : Nat) : Prop := cpD s p D ∧ (ps_i s p 8).toInt = D.length ∧ (ps_i s p 9).toInt = c
/-- where a proof's own cells lie -/
def CPF (p q : Nat) : Prop := q = p ∨ (p + 14 ≤ q ∧ q ≤ p + 19) ∨ (p + 44 ≤ q ∧ q ≤ p + 409)
section S34
variable {p th : Nat} {h : tx_H} {Θ : List tq_H} {L : List tp_P} {s0 : ps_S} {R : ps_S → Prop}
theorem tq_G_step {D : List tq_R} {st : tp_P} (hD : tq_GD h.1 D) (hT : tq_GT h.1 Θ) (hwt : WFt h) (hG : tp_G h.1 h.2.length st) (hpr : tq_pr Θ D st) (hm : (tq_mk h Θ D st).1 = 0) (hf : tq_fit h (tq_res h Θ D st)) : tq_GD h.1 (D ++ [tq_res h Θ D st]) := fun k R hk => by
  rcases Nat.lt_or_ge k D.length with u | u
  · rw [List.getElem?_append_left u] at hk
    exact hD k R hk
  · have hkl := (List.getElem?_eq_some_iff.mp hk).1
    rw [List.length_append, List.length_singleton] at hkl
    rw [show k = D.length from by omega, List.getElem?_append_right (Nat.le_refl _), Nat.sub_self] at hk
    have e : tq_res h Θ D st = R := Option.some.inj hk
    rw [← e]
    refine ⟨⟨tq_mk_ws hwt hG hpr hD hT hm, hf.1, hf.2.2⟩, hf.2.1, fun y hy => ?_⟩
    have aD : ∀ (j : Nat) (y : List Nat), y ∈ tq_a D j → y ≠ [] ∧ y.length ≤ 40 := fun j y hy => by
      unfold tq_a at hy
      rw [List.getD_eq_getElem?_getD] at hy
      cases e2 : D[j]? with
      | none => rw [e2] at hy; cases hy
      | some q => rw [e2] at hy; exact (hD j q e2).2.2 y hy
    have hy : y ∈ tq_as D st (tq_mk h Θ D st).2.2 := hy
    by_cases e11 : st.1.1 = 11
    · have ea : tq_as D st (tq_mk h Θ D st).2.2 = [st.2.2.2] := by unfold tq_as; rw [if_pos e11]
      rw [ea, List.mem_singleton] at hy
      rw [hy]
      obtain ⟨wf1, wf2⟩ := hG.2.2.1 (Or.inl e11)
      refine ⟨fun z => ?_, wf2⟩
      obtain ⟨c, t, e2⟩ := ws_ne wf1
      rw [z] at e2
      cases e2
    · rw [tq_za_is e11] at hy
      have key : ∀ m, y ∈ tq_za D st (tq_mk h Θ D st).2.2 m → y ≠ [] ∧ y.length ≤ 40 := by
        intro m
        induction m with
        | zero => intro hy; cases hy
        | succ m ih =>
          intro hy
          rcases tq_ga_mem hy with hy | hy
          · exact ih hy
          · exact aD _ y hy
      exact key _ hy
theorem tq_cs_is {D : List tq_R} {st : tp_P} (hc : tq_cs h Θ D st = 0) : tq_pr Θ D st ∧ (tq_mk h Θ D st).1 = 0 ∧ tq_fit h (tq_res h Θ D st) := by
  by_cases hp : tq_pr Θ D st
  · by_cases hm : (tq_mk h Θ D st).1 = 0
    · by_cases hf : tq_fit h (tq_res h Θ D st)
      · exact ⟨hp, hm, hf⟩
      · rw [tq_cs_5 hp hm hf] at hc
        cases hc
    · rw [tq_cs_m hp hm] at hc
      exact absurd hc hm
  · rw [tq_cs_1 hp] at hc
    cases hc
theorem fs_34_7 (hp : p = 50 ∨ p = 460) (hth : th = 2 ∨ th = 26) (hT : tq_GT h.1 Θ) (hwt : WFt h) (hL : L.length ≤ 40) (hG : ∀ (k : Nat) (st : tp_P), L[k]? = some st → tp_G h.1 h.2.length st) (k : ∀ s' D c, tq_run h Θ L [] = (D, c) → tq_GD h.1 D → cpP s' p D c → cfr (CPF p) s0 s' → R s') : ∀ (n : Nat) {s : ps_S} {x3 : Int32} {D : List tq_R}, x3.toInt = D.length → D.length ≤ L.length → tq_run h Θ L [] = tq_run h Θ (L.drop D.length) D → tq_GD h.1 D → cv_H s th h → ps_r s p 6 = th → cSh s 870 Θ → cpD s p D → cv_W s (p + 12) [] → cpW s p L D.length → (ps_i s p 7).toInt = L.length → (ps_i s p 8).toInt = D.length → (L.length = D.length → ps_i s p 9 = 0) → cfr (CPF p) s0 s → pl_At n 34 7 [(0, .ref p), (2, .ref 870), (3, .int x3)] [] s (ps_rV R)
  | 0, _, _, _, _, _, _, _, _, _, _, _, _, _, _, _, _, _ => pl_At_0
  | n + 1, s, x3, D, hx, hDL, hrun, hD, H, h6, hS, cD, W12, cW, e7, e8, e9, F => by
    have h8 := H.2.2.1
    refine pl_34_7 (pl_nk_i (fun _ => ⟨fun z => ?_, fun z => ?_⟩))
    · have z := xle z
      have e : D.length = L.length := by omega
      rw [e, List.drop_length] at hrun
      exact k s D 0 hrun hD ⟨cD, e8, by rw [e9 e.symm]; rfl⟩ F
    · have z := xlt z
      obtain ⟨st, hst⟩ : ∃ st, L[D.length]? = some st := ⟨_, List.getElem?_eq_getElem (by omega)⟩
      have hi : D.length < 40 := by omega
      have hl := stc_lt hp hi
      obtain ⟨w1, w2⟩ := cW D.length st (Nat.le_refl _) hst
      rw [drop_g hst] at hrun
      refine fs_35 hp hi ⟨⟨H, h6, hth⟩, hS, cD, w1, W12⟩ w2 hD hT hwt (hG _ st hst) hx (fun v1 s1 q => ?_)
      obtain ⟨q1, q2, F1⟩ := q
      have F1' : cfr (CPF p) s s1 := cfr_mono F1 (fun q z => by unfold CTO at z; unfold CPF; omega)
      refine pl_nk_i (fun _ => pl_nk_i (fun _ => ⟨fun y => pl_nk_i (fun _ => ?_), fun y => ?_⟩))
      · have y : v1 = 0 := by rw [ps_i_ui, if_pos ⟨rfl, rfl⟩] at y; exact y
        have hc : tq_cs h Θ D st = 0 := by
          rw [y, Int32.toInt_zero] at q1
          omega
        obtain ⟨c1, c2, c3⟩ := tq_cs_is hc
        rw [tq_run_0 hc] at hrun
        have hlen : (D ++ [tq_res h Θ D st]).length = D.length + 1 := List.length_append
        have e31 : (x3 + 1).toInt = (D.length + 1 : Nat) := xj1 hx (by omega)
        have F2 : cfr (fun q => q = p) s1 (ps_ui (ps_ui s1 p 9 v1) p 8 (x3 + 1)) := cfr_i (cfr_i cfr_refl rfl) rfl
        have F12 : cfr (fun q => q = p ∨ CTO p D.length q) s (ps_ui (ps_ui s1 p 9 v1) p 8 (x3 + 1)) := cfr_tr (cfr_mono F1 (fun q z => Or.inr z)) (cfr_mono F2 (fun q z => Or.inl z))
        refine fs_34_7 hp hth hT hwt hL hG k n (D := D ++ [tq_res h Θ D st]) (by rw [hlen]; exact e31) (by omega) (by rw [hlen]; exact hrun) (tq_G_step hD hT hwt (hG _ st hst) c1 c2 c3) (cv_H_cfr H F12 (fun q a b => by unfold CTO; omega)) ?_ (cSh_cfr hS F12 (fun q a b => by unfold CTO; omega)) (cpD_cfr (q2 hc) F2 (fun q a b => by unfold stc at a; omega)) (cv_W_cfr W12 F12 (by unfold CTO; omega) (by unfold CTO; omega)) (fun kk st2 hk hs2 => ?_) ?_ ?_ (fun _ => ?_) (cfr_tr F (cfr_tr F1' (cfr_mono F2 (fun q z => Or.inl z))))
        · show ps_r s1 p 6 = th
          rw [(F1 p (by unfold CTO; omega)).2.2.1]
          exact h6
        · rw [hlen] at hk
          have hkl := (List.getElem?_eq_some_iff.mp hs2).1
          obtain ⟨a1, a2, a3, a4, a5⟩ := cW kk st2 (by omega) hs2
          have hlk := stc_lt hp (i := kk) (by omega)
          have hsk : stc p D.length + 9 ≤ stc p kk := by unfold stc; omega
          have f0 := F12 (stc p kk) (by unfold CTO; omega)
          exact ⟨cpT_cfr a1 F12 (fun q a b => by unfold CTO; omega), by rw [f0.1]; exact a2, by rw [f0.1]; exact a3, by rw [f0.1]; exact a4, by rw [f0.1]; exact a5⟩
        · rw [ps_i_ui, if_neg (by omega), ps_i_ui, if_neg (by omega), (F1 p (by unfold CTO; omega)).1]
          exact e7
        · rw [ps_i_ui, if_pos ⟨rfl, rfl⟩, hlen]
          exact e31
        · rw [ps_i_ui, if_neg (by omega), ps_i_ui, if_pos ⟨rfl, rfl⟩]
          exact y
      · have y : v1 ≠ 0 := by rw [ps_i_ui, if_pos ⟨rfl, rfl⟩] at y; exact y
        have hc : tq_cs h Θ D st ≠ 0 := fun e => y (Int32.toInt_inj.mp (by rw [q1, e]; rfl))
        rw [tq_run_c hc] at hrun
        have F2 : cfr (fun q => q = p) s1 (ps_ui s1 p 9 v1) := cfr_i cfr_refl rfl
        refine k _ D _ hrun hD ⟨cpD_cfr (cpD_cfr cD F1 (fun q a b => by unfold CTO; unfold stc at *; omega)) F2 (fun q a b => by unfold stc at a; omega), ?_, ?_⟩ (cfr_tr F (cfr_tr F1' (cfr_mono F2 (fun q z => Or.inl z))))
        · rw [ps_i_ui, if_neg (by omega), (F1 p (by unfold CTO; omega)).1]
          exact e8
        · rw [ps_i_ui, if_pos ⟨rfl, rfl⟩]
          exact q1
theorem fs_34 {n : Nat} (hp : p = 50 ∨ p = 460) (hth : th = 2 ∨ th = 26) (hT : tq_GT h.1 Θ) (hwt : WFt h) (hL : L.length ≤ 40) (hG : ∀ (k : Nat) (st : tp_P), L[k]? = some st → tp_G h.1 h.2.length st) (H : cv_H s0 th h) (hS : cSh s0 870 Θ) (W12 : cv_W s0 (p + 12) []) (cW : cpW s0 p L 0) (e7 : (ps_i s0 p 7).toInt = L.length) (e8 : (ps_i s0 p 8).toInt = 0) (e9 : ps_i s0 p 9 = 0) (k : ∀ s', (∃ D c, tq_run h Θ L [] = (D, c) ∧ tq_GD h.1 D ∧ cpP s' p D c ∧ cfr (CPF p) s0 s') → R s') : pl_Cl n 34 [.ref p, .ref th, .ref 870] s0 (ps_rV R) := by
  cases n with
  | zero => exact pl_At_0
  | succ n =>
  show pl_At (n + 1) 34 0 [(0, .ref p), (1, .ref th), (2, .ref 870)] [] s0 (ps_rV R)
  have h8 := H.2.2.1
  have F : cfr (fun q => q = p) s0 (ps_ur s0 p 6 th) := cfr_r cfr_refl rfl
  refine pl_34_0 (pl_nk_i (fun _ => ?_))
  refine fs_34_7 (th := th) hp hth hT hwt hL hG (fun s' D c a b d e => k s' ⟨D, c, a, b, d, e⟩) n (D := []) rfl (Nat.zero_le _) rfl (fun k R hk => by cases hk) (cv_H_cfr H F (fun q a b => by omega)) ?_ (cSh_cfr hS F (fun q a b => by omega)) ⟨Nat.zero_le _, fun k R hk => by cases hk⟩ (cv_W_cfr W12 F (by omega) (by omega)) cW e7 e8 (fun _ => e9) (cfr_mono F (fun q z => Or.inl z))
  rw [ps_r_ur, if_pos ⟨rfl, rfl⟩]
end S34

