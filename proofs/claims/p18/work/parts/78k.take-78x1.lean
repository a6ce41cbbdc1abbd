section
set_option maxRecDepth 100000
/-! the class: a step taken; the steps of a proof taken -/
-- ProofBench$Proof.make(LProofBench$Step;ILProofBench$Shelf;)I
theorem pl_42_0 {n : Nat} {r0 : Nat} {r1 : Nat} {x2 : Int32} {r3 : Nat} {s : ps_S} {Q : Option Value → ps_S → Prop} (h :
  pl_Cl n 37 [.ref r0, .ref r1, .int 0] s (ps_rA (fun v1 s1 =>
    pl_nk (ps_is v1 8) (pl_nk (ps_is r1 8) (((ps_i s1 r1 0) = 6 →
      pl_Cl n 43 [.ref r0, .ref r1, .int x2, .ref r3] s1 (ps_rI (fun v2 s2 =>
        Q (some (.int v2)) s2))) ∧
    ((ps_i s1 r1 0) ≠ 6 →
      ((ps_i s1 r1 0) = 7 →
      pl_Cl n 48 [.ref r0, .ref r1, .ref (ps_c0 v1 6)] s1 (ps_rI (fun v3 s3 =>
        Q (some (.int v3)) s3))) ∧
    ((ps_i s1 r1 0) ≠ 7 →
      ((ps_i s1 r1 0) = 8 →
      pl_Cl n 48 [.ref r0, .ref r1, .ref (ps_c0 v1 6)] s1 (ps_rI (fun v4 s4 =>
        Q (some (.int v4)) s4))) ∧
    ((ps_i s1 r1 0) ≠ 8 →
      ((ps_i s1 r1 0) = 9 →
      pl_Cl n 48 [.ref r0, .ref r1, .ref (ps_c0 v1 6)] s1 (ps_rI (fun v5 s5 =>
        Q (some (.int v5)) s5))) ∧
    ((ps_i s1 r1 0) ≠ 9 →
      ((ps_i s1 r1 0) = 10 →
      pl_Cl n 43 [.ref r0, .ref r1, .int x2, .ref r3] s1 (ps_rI (fun v6 s6 =>
        Q (some (.int v6)) s6))) ∧
    ((ps_i s1 r1 0) ≠ 10 →
      ((ps_i s1 r1 0) = 11 →
      pl_Cl n 43 [.ref r0, .ref r1, .int x2, .ref r3] s1 (ps_rI (fun v7 s7 =>
        Q (some (.int v7)) s7))) ∧
    ((ps_i s1 r1 0) ≠ 11 →
      ((ps_i s1 r1 0) = 12 →
      pl_Cl n 43 [.ref r0, .ref r1, .int x2, .ref r3] s1 (ps_rI (fun v8 s8 =>
        Q (some (.int v8)) s8))) ∧
    ((ps_i s1 r1 0) ≠ 12 →
      ((ps_i s1 r1 0) = 13 →
      pl_Cl n 44 [.ref r0, .ref r1, .ref (ps_c0 v1 6)] s1 (ps_rI (fun v9 s9 =>
        Q (some (.int v9)) s9))) ∧
    ((ps_i s1 r1 0) ≠ 13 →
      ((ps_i s1 r1 0) = 14 →
      pl_Cl n 45 [.ref r0, .ref r1, .ref (ps_c0 v1 6)] s1 (ps_rI (fun v10 s10 =>
        Q (some (.int v10)) s10))) ∧
    ((ps_i s1 r1 0) ≠ 14 →
      ((ps_i s1 r1 0) = 15 →
      pl_Cl n 45 [.ref r0, .ref r1, .ref (ps_c0 v1 6)] s1 (ps_rI (fun v11 s11 =>
        Q (some (.int v11)) s11))) ∧
    ((ps_i s1 r1 0) ≠ 15 →
      ((ps_i s1 r1 0) = 16 →
      pl_Cl n 44 [.ref r0, .ref r1, .ref (ps_c0 v1 6)] s1 (ps_rI (fun v12 s12 =>
        Q (some (.int v12)) s12))) ∧
    ((ps_i s1 r1 0) ≠ 16 →
      ((ps_i s1 r1 0) = 17 →
      pl_Cl n 44 [.ref r0, .ref r1, .ref (ps_c0 v1 6)] s1 (ps_rI (fun v13 s13 =>
        Q (some (.int v13)) s13))) ∧
    ((ps_i s1 r1 0) ≠ 17 →
      ((ps_i s1 r1 0) = 18 →
      pl_Cl n 46 [.ref r0, .ref r1, .ref (ps_c0 v1 6)] s1 (ps_rI (fun v14 s14 =>
        Q (some (.int v14)) s14))) ∧
    ((ps_i s1 r1 0) ≠ 18 →
      ((ps_i s1 r1 0) = 19 →
      pl_Cl n 37 [.ref r0, .ref r1, .int 1] s1 (ps_rA (fun v15 s15 =>
        pl_nk (ps_is v15 8) (pl_Cl n 47 [.ref r0, .ref r1, .ref (ps_c0 v1 6), .ref (ps_c0 v15 6)] s15 (ps_rI (fun v16 s16 =>
          Q (some (.int v16)) s16)))))) ∧
    ((ps_i s1 r1 0) ≠ 19 →
      ((ps_i s1 r1 0) = 20 →
      pl_Cl n 44 [.ref r0, .ref r1, .ref (ps_c0 v1 6)] s1 (ps_rI (fun v17 s17 =>
        Q (some (.int v17)) s17))) ∧
    ((ps_i s1 r1 0) ≠ 20 →
      ((ps_i s1 r1 0) = 21 →
      pl_Cl n 49 [.ref r0, .ref r1, .ref (ps_c0 v1 6)] s1 (ps_rI (fun v18 s18 =>
        Q (some (.int v18)) s18))) ∧
    ((ps_i s1 r1 0) ≠ 21 →
      ((ps_i s1 r1 0) = 22 →
      pl_Cl n 50 [.ref r0, .ref r1, .ref (ps_c0 v1 6)] s1 (ps_rI (fun v19 s19 =>
        Q (some (.int v19)) s19))) ∧
    ((ps_i s1 r1 0) ≠ 22 →
      ((ps_i s1 r1 0) = 23 →
      pl_Cl n 53 [.ref r0, .ref r1, .ref (ps_c0 v1 6)] s1 (ps_rI (fun v20 s20 =>
        Q (some (.int v20)) s20))) ∧
    ((ps_i s1 r1 0) ≠ 23 →
      ((ps_i s1 r1 0) = 24 →
      pl_Cl n 37 [.ref r0, .ref r1, .int 1] s1 (ps_rA (fun v21 s21 =>
        pl_Cl n 54 [.ref r0, .ref r1, .ref (ps_c0 v1 6), .ref v21] s21 (ps_rI (fun v22 s22 =>
          Q (some (.int v22)) s22))))) ∧
    ((ps_i s1 r1 0) ≠ 24 →
      ((ps_i s1 r1 0) = 25 →
      pl_Cl n 37 [.ref r0, .ref r1, .int 1] s1 (ps_rA (fun v23 s23 =>
        pl_nk (ps_is v23 8) (pl_Cl n 55 [.ref r0, .ref r1, .ref (ps_c0 v1 6), .ref (ps_c0 v23 6)] s23 (ps_rI (fun v24 s24 =>
          Q (some (.int v24)) s24)))))) ∧
    ((ps_i s1 r1 0) ≠ 25 →
      pl_Cl n 48 [.ref r0, .ref r1, .ref (ps_c0 v1 6)] s1 (ps_rI (fun v25 s25 =>
      Q (some (.int v25)) s25))))))))))))))))))))))))))) : pl_At (n + 1) 42 0 [(0, .ref r0), (1, .ref r1), (2, .int x2), (3, .ref r3)] [] s Q :=
  pl_wp_at (stops := []) (f := 134) h rfl

-- ProofBench$Proof.isTooMuch(LProofBench$Step;)Z
theorem pl_41_0 {n : Nat} {r0 : Nat} {r1 : Nat} {s : ps_S} {Q : Option Value → ps_S → Prop} (h :
  pl_nk (ps_is r1 8) (pl_nk (ps_is (ps_c0 r1 6) 5) (((ps_i s (ps_c0 r1 6) 2) ≠ 0 →
    Q (some (.int 1)) s) ∧
  ((ps_i s (ps_c0 r1 6) 2) = 0 →
    pl_nk (ps_is r1 8) (((ps_i s r1 9) = 0 →
      pl_nk (ps_is r0 2) (pl_nk (ps_is r1 8) (pl_nk (ps_is r0 2) (pl_Cl n 103 [.ref (ps_c0 r0 5), .ref (ps_c0 r1 6), .ref (ps_r s r0 6)] s (ps_rV (fun s1 =>
        pl_nk (ps_is r0 2) (pl_Cl n 106 [.ref (ps_c0 r0 5)] s1 (ps_rI (fun v2 s2 =>
          pl_nk (decide (v2 &&& 1 = v2)) (Q (some (.int v2)) s2)))))))))) ∧
    ((ps_i s r1 9) ≠ 0 →
      Q (some (.int 1)) s)))))) : pl_At (n + 1) 41 0 [(0, .ref r0), (1, .ref r1)] [] s Q :=
  pl_wp_at (stops := []) (f := 24) h rfl

-- ProofBench$Proof.takeOne(ILProofBench$Shelf;)I
theorem pl_35_0 {n : Nat} {r0 : Nat} {x1 : Int32} {r2 : Nat} {s : ps_S} {Q : Option Value → ps_S → Prop} (h :
  pl_Cl n 33 [.ref r0, .int x1] s (ps_rA (fun v1 s1 =>
    pl_Cl n 36 [.ref r0, .ref v1, .int x1, .ref r2] s1 (ps_rI (fun v2 s2 =>
      (v2 ≠ 0 →
        pl_At n 35 21 [(0, .ref r0), (1, .int x1), (2, .ref r2), (3, .ref v1), (4, .int 0)] [] s2 Q) ∧
      (v2 = 0 →
        Q (some (.int 1)) s2)))))) : pl_At (n + 1) 35 0 [(0, .ref r0), (1, .int x1), (2, .ref r2)] [] s Q :=
  pl_wp_at (stops := [(21, [0, 1, 2, 3, 4]), (73, [0, 3, 5])]) (f := 16) h rfl

theorem pl_35_21 {n : Nat} {r0 : Nat} {x1 : Int32} {r2 : Nat} {r3 : Nat} {x4 : Int32} {s : ps_S} {Q : Option Value → ps_S → Prop} (h :
  pl_nk (ps_is r0 2) (pl_nk (Nat.beq (ps_K (ps_c0 r0 2)).1 0) (((nI (ps_ln (ps_c0 r0 2))) ≤ x4 →
    pl_Cl n 42 [.ref r0, .ref r3, .int x1, .ref r2] s (ps_rI (fun v1 s1 =>
      (v1 = 0 →
        pl_nk (ps_is r3 8) (pl_At n 35 73 [(0, .ref r0), (3, .ref r3), (5, .int 0)] [] (ps_uj s1 r3 12 ((1 : Int64) <<< (Int32.toInt64 x1 &&& 63))) Q)) ∧
      (v1 ≠ 0 →
        Q (some (.int v1)) s1)))) ∧
  (x4 < (nI (ps_ln (ps_c0 r0 2))) →
    pl_Cl n 38 [.ref r0, .int x4] s (ps_rA (fun v2 s2 =>
      pl_Cl n 91 [.ref v2] s2 (ps_rV (fun s3 =>
        pl_At n 35 21 [(0, .ref r0), (1, .int x1), (2, .ref r2), (3, .ref r3), (4, .int (x4 + 1))] [] s3 Q)))))))) : pl_At (n + 1) 35 21 [(0, .ref r0), (1, .int x1), (2, .ref r2), (3, .ref r3), (4, .int x4)] [] s Q :=
  pl_wp_at (stops := [(21, [0, 1, 2, 3, 4]), (73, [0, 3, 5])]) (f := 30) h rfl

theorem pl_35_73 {n : Nat} {r0 : Nat} {r3 : Nat} {x5 : Int32} {s : ps_S} {Q : Option Value → ps_S → Prop} (h :
  pl_nk (ps_is r3 8) (pl_Cl n 116 [.int (ps_i s r3 0)] s (ps_rI (fun v1 s1 =>
    (v1 ≤ x5 →
      pl_Cl n 41 [.ref r0, .ref r3] s1 (ps_rI (fun v2 s2 =>
        (v2 = 0 →
          Q (some (.int 0)) s2) ∧
        (v2 ≠ 0 →
          Q (some (.int 5)) s2)))) ∧
    (x5 < v1 →
      pl_Cl n 37 [.ref r0, .ref r3, .int x5] s1 (ps_rA (fun v3 s3 =>
        pl_Cl n 124 [.ref r3, .ref v3] s3 (ps_rV (fun s4 =>
          pl_Cl n 37 [.ref r0, .ref r3, .int x5] s4 (ps_rA (fun v5 s5 =>
            pl_Cl n 38 [.ref r0, .int x5] s5 (ps_rA (fun v6 s6 =>
              pl_Cl n 39 [.ref r0, .ref r3, .ref v5, .ref v6] s6 (ps_rV (fun s7 =>
                pl_At n 35 73 [(0, .ref r0), (3, .ref r3), (5, .int (x5 + 1))] [] s7 Q))))))))))))))) : pl_At (n + 1) 35 73 [(0, .ref r0), (3, .ref r3), (5, .int x5)] [] s Q :=
  pl_wp_at (stops := [(21, [0, 1, 2, 3, 4]), (73, [0, 3, 5])]) (f := 34) h rfl

-- ProofBench$Proof.takeSteps(LProofBench$Theory;LProofBench$Shelf;)V
theorem pl_34_0 {n : Nat} {r0 : Nat} {r1 : Nat} {r2 : Nat} {s : ps_S} {Q : Option Value → ps_S → Prop} (h :
  pl_nk (ps_is r0 2) (pl_At n 34 7 [(0, .ref r0), (2, .ref r2), (3, .int 0)] [] (ps_ur s r0 6 r1) Q)) : pl_At (n + 1) 34 0 [(0, .ref r0), (1, .ref r1), (2, .ref r2)] [] s Q :=
  pl_wp_at (stops := [(7, [0, 2, 3])]) (f := 7) h rfl

theorem pl_34_7 {n : Nat} {r0 : Nat} {r2 : Nat} {x3 : Int32} {s : ps_S} {Q : Option Value → ps_S → Prop} (h :
  pl_nk (ps_is r0 2) (((ps_i s r0 7) ≤ x3 →
    Q none s) ∧
  (x3 < (ps_i s r0 7) →
    pl_Cl n 35 [.ref r0, .int x3, .ref r2] s (ps_rI (fun v1 s1 =>
      pl_nk (ps_is r0 2) (pl_nk (ps_is r0 2) (((ps_i (ps_ui s1 r0 9 v1) r0 9) = 0 →
        pl_nk (ps_is r0 2) (pl_At n 34 7 [(0, .ref r0), (2, .ref r2), (3, .int (x3 + 1))] [] (ps_ui (ps_ui s1 r0 9 v1) r0 8 (x3 + 1)) Q)) ∧
      ((ps_i (ps_ui s1 r0 9 v1) r0 9) ≠ 0 →
        Q none (ps_ui s1 r0 9 v1))))))))) : pl_At (n + 1) 34 7 [(0, .ref r0), (2, .ref r2), (3, .int x3)] [] s Q :=
  pl_wp_at (stops := [(7, [0, 2, 3])]) (f := 24) h rfl

section S42
variable {p th : Nat} {h : tx_H} {Θ : List tq_H} {D : List tq_R} {st : tp_P} {s : ps_S} {R : Int32 → ps_S → Prop} {x2 : Int32}
theorem fs_42 {n : Nat} (hp : p = 50 ∨ p = 460) (hi : D.length < 40) (X : cpX s p th h Θ D st) (hD : tq_GD h.1 D) (hG : tp_G h.1 h.2.length st) (B : cpB s p (stc p D.length)) (hpr : tq_pr Θ D st) (hx : x2.toInt = D.length) (k : ∀ v s', cpK s p h Θ D st v s' → R v s') : pl_Cl n 42 [.ref p, .ref (stc p D.length), .int x2, .ref 870] s (ps_rI R) := by
  cases n with
  | zero => exact pl_At_0
  | succ n =>
  show pl_At (n + 1) 42 0 [(0, .ref p), (1, .ref (stc p D.length)), (2, .int x2), (3, .ref 870)] [] s (ps_rI R)
  have hl := stc_lt hp hi
  obtain ⟨⟨r, n1, n2, n3⟩, ⟨ax, x⟩, tt, f⟩ := st
  obtain ⟨t0, t1, t2, t3, -⟩ := id X.2.2.2.1
  rcases tp_ok_c hG.1 with rfl | rfl | rfl | rfl | rfl | rfl | rfl | rfl | rfl | rfl | rfl | rfl | rfl | rfl | rfl | rfl | rfl | rfl | rfl
  · have er : (ps_i s (stc p D.length) 0).toInt = (6 : Int) := t0
    refine pl_42_0 (fs_37o (fun v1 => pl_nk_i (fun _ => pl_nk_i (fun _ => ?_))))
    refine ⟨fun _ => ?_, fun z => absurd (show (ps_i s (stc p D.length) 0).toInt = (6 : Int) from er) (xne z)⟩
    exact fs_43_r6 hp hi X hD hG B k
  · have er : (ps_i s (stc p D.length) 0).toInt = (10 : Int) := t0
    refine pl_42_0 (fs_37o (fun v1 => pl_nk_i (fun _ => pl_nk_i (fun _ => ?_))))
    refine ⟨fun z => absurd (show (ps_i s (stc p D.length) 0).toInt = (6 : Int) from xeq z) (by omega), fun _ => ?_⟩
    refine ⟨fun z => absurd (show (ps_i s (stc p D.length) 0).toInt = (7 : Int) from xeq z) (by omega), fun _ => ?_⟩
    refine ⟨fun z => absurd (show (ps_i s (stc p D.length) 0).toInt = (8 : Int) from xeq z) (by omega), fun _ => ?_⟩
    refine ⟨fun z => absurd (show (ps_i s (stc p D.length) 0).toInt = (9 : Int) from xeq z) (by omega), fun _ => ?_⟩
    refine ⟨fun _ => ?_, fun z => absurd (show (ps_i s (stc p D.length) 0).toInt = (10 : Int) from er) (xne z)⟩
    exact fs_43_r10 hp hi X hD hG B k
  · have er : (ps_i s (stc p D.length) 0).toInt = (11 : Int) := t0
    refine pl_42_0 (fs_37o (fun v1 => pl_nk_i (fun _ => pl_nk_i (fun _ => ?_))))
    refine ⟨fun z => absurd (show (ps_i s (stc p D.length) 0).toInt = (6 : Int) from xeq z) (by omega), fun _ => ?_⟩
    refine ⟨fun z => absurd (show (ps_i s (stc p D.length) 0).toInt = (7 : Int) from xeq z) (by omega), fun _ => ?_⟩
    refine ⟨fun z => absurd (show (ps_i s (stc p D.length) 0).toInt = (8 : Int) from xeq z) (by omega), fun _ => ?_⟩
    refine ⟨fun z => absurd (show (ps_i s (stc p D.length) 0).toInt = (9 : Int) from xeq z) (by omega), fun _ => ?_⟩
    refine ⟨fun z => absurd (show (ps_i s (stc p D.length) 0).toInt = (10 : Int) from xeq z) (by omega), fun _ => ?_⟩
    refine ⟨fun _ => ?_, fun z => absurd (show (ps_i s (stc p D.length) 0).toInt = (11 : Int) from er) (xne z)⟩
    exact fs_43_r11 hx hp hi X hD hG B k
  · have er : (ps_i s (stc p D.length) 0).toInt = (12 : Int) := t0
    refine pl_42_0 (fs_37o (fun v1 => pl_nk_i (fun _ => pl_nk_i (fun _ => ?_))))
    refine ⟨fun z => absurd (show (ps_i s (stc p D.length) 0).toInt = (6 : Int) from xeq z) (by omega), fun _ => ?_⟩
    refine ⟨fun z => absurd (show (ps_i s (stc p D.length) 0).toInt = (7 : Int) from xeq z) (by omega), fun _ => ?_⟩
    refine ⟨fun z => absurd (show (ps_i s (stc p D.length) 0).toInt = (8 : Int) from xeq z) (by omega), fun _ => ?_⟩
    refine ⟨fun z => absurd (show (ps_i s (stc p D.length) 0).toInt = (9 : Int) from xeq z) (by omega), fun _ => ?_⟩
    refine ⟨fun z => absurd (show (ps_i s (stc p D.length) 0).toInt = (10 : Int) from xeq z) (by omega), fun _ => ?_⟩
    refine ⟨fun z => absurd (show (ps_i s (stc p D.length) 0).toInt = (11 : Int) from xeq z) (by omega), fun _ => ?_⟩
    refine ⟨fun _ => ?_, fun z => absurd (show (ps_i s (stc p D.length) 0).toInt = (12 : Int) from er) (xne z)⟩
    exact fs_43_r12 hpr hp hi X hD hG B k
  · have er : (ps_i s (stc p D.length) 0).toInt = (13 : Int) := t0
    have p1 : n1 < D.length := hpr.1 (of_decide_eq_true rfl)
    have p2 : n2 < D.length := hpr.2.1 (of_decide_eq_true rfl)
    refine pl_42_0 (fs_37 (j := 0) (i := n1) hp (stc_is hp hi) hl.2.1 rfl (by decide) (t1 (of_decide_eq_true rfl)) (by omega) (pl_nk_i (fun _ => pl_nk_i (fun _ => ?_))))
    rw [(stc_c hp (i := n1) (by omega)).2.2.2.1]
    refine ⟨fun z => absurd (show (ps_i s (stc p D.length) 0).toInt = (6 : Int) from xeq z) (by omega), fun _ => ?_⟩
    refine ⟨fun z => absurd (show (ps_i s (stc p D.length) 0).toInt = (7 : Int) from xeq z) (by omega), fun _ => ?_⟩
    refine ⟨fun z => absurd (show (ps_i s (stc p D.length) 0).toInt = (8 : Int) from xeq z) (by omega), fun _ => ?_⟩
    refine ⟨fun z => absurd (show (ps_i s (stc p D.length) 0).toInt = (9 : Int) from xeq z) (by omega), fun _ => ?_⟩
    refine ⟨fun z => absurd (show (ps_i s (stc p D.length) 0).toInt = (10 : Int) from xeq z) (by omega), fun _ => ?_⟩
    refine ⟨fun z => absurd (show (ps_i s (stc p D.length) 0).toInt = (11 : Int) from xeq z) (by omega), fun _ => ?_⟩
    refine ⟨fun z => absurd (show (ps_i s (stc p D.length) 0).toInt = (12 : Int) from xeq z) (by omega), fun _ => ?_⟩
    refine ⟨fun _ => ?_, fun z => absurd (show (ps_i s (stc p D.length) 0).toInt = (13 : Int) from er) (xne z)⟩
    exact fs_44_r13 hp hi X hD hG B (hpr.1 (of_decide_eq_true rfl)) (hpr.2.1 (of_decide_eq_true rfl)) k
  · have er : (ps_i s (stc p D.length) 0).toInt = (14 : Int) := t0
    have p1 : n1 < D.length := hpr.1 (of_decide_eq_true rfl)
    refine pl_42_0 (fs_37 (j := 0) (i := n1) hp (stc_is hp hi) hl.2.1 rfl (by decide) (t1 (of_decide_eq_true rfl)) (by omega) (pl_nk_i (fun _ => pl_nk_i (fun _ => ?_))))
    rw [(stc_c hp (i := n1) (by omega)).2.2.2.1]
    refine ⟨fun z => absurd (show (ps_i s (stc p D.length) 0).toInt = (6 : Int) from xeq z) (by omega), fun _ => ?_⟩
    refine ⟨fun z => absurd (show (ps_i s (stc p D.length) 0).toInt = (7 : Int) from xeq z) (by omega), fun _ => ?_⟩
    refine ⟨fun z => absurd (show (ps_i s (stc p D.length) 0).toInt = (8 : Int) from xeq z) (by omega), fun _ => ?_⟩
    refine ⟨fun z => absurd (show (ps_i s (stc p D.length) 0).toInt = (9 : Int) from xeq z) (by omega), fun _ => ?_⟩
    refine ⟨fun z => absurd (show (ps_i s (stc p D.length) 0).toInt = (10 : Int) from xeq z) (by omega), fun _ => ?_⟩
    refine ⟨fun z => absurd (show (ps_i s (stc p D.length) 0).toInt = (11 : Int) from xeq z) (by omega), fun _ => ?_⟩
    refine ⟨fun z => absurd (show (ps_i s (stc p D.length) 0).toInt = (12 : Int) from xeq z) (by omega), fun _ => ?_⟩
    refine ⟨fun z => absurd (show (ps_i s (stc p D.length) 0).toInt = (13 : Int) from xeq z) (by omega), fun _ => ?_⟩
    refine ⟨fun _ => ?_, fun z => absurd (show (ps_i s (stc p D.length) 0).toInt = (14 : Int) from er) (xne z)⟩
    exact fs_45_r14 hp hi X hD hG B (hpr.1 (of_decide_eq_true rfl)) k
  · have er : (ps_i s (stc p D.length) 0).toInt = (15 : Int) := t0
    have p1 : n1 < D.length := hpr.1 (of_decide_eq_true rfl)
    refine pl_42_0 (fs_37 (j := 0) (i := n1) hp (stc_is hp hi) hl.2.1 rfl (by decide) (t1 (of_decide_eq_true rfl)) (by omega) (pl_nk_i (fun _ => pl_nk_i (fun _ => ?_))))
    rw [(stc_c hp (i := n1) (by omega)).2.2.2.1]
    refine ⟨fun z => absurd (show (ps_i s (stc p D.length) 0).toInt = (6 : Int) from xeq z) (by omega), fun _ => ?_⟩
    refine ⟨fun z => absurd (show (ps_i s (stc p D.length) 0).toInt = (7 : Int) from xeq z) (by omega), fun _ => ?_⟩
    refine ⟨fun z => absurd (show (ps_i s (stc p D.length) 0).toInt = (8 : Int) from xeq z) (by omega), fun _ => ?_⟩
    refine ⟨fun z => absurd (show (ps_i s (stc p D.length) 0).toInt = (9 : Int) from xeq z) (by omega), fun _ => ?_⟩
    refine ⟨fun z => absurd (show (ps_i s (stc p D.length) 0).toInt = (10 : Int) from xeq z) (by omega), fun _ => ?_⟩
    refine ⟨fun z => absurd (show (ps_i s (stc p D.length) 0).toInt = (11 : Int) from xeq z) (by omega), fun _ => ?_⟩
    refine ⟨fun z => absurd (show (ps_i s (stc p D.length) 0).toInt = (12 : Int) from xeq z) (by omega), fun _ => ?_⟩
    refine ⟨fun z => absurd (show (ps_i s (stc p D.length) 0).toInt = (13 : Int) from xeq z) (by omega), fun _ => ?_⟩
    refine ⟨fun z => absurd (show (ps_i s (stc p D.length) 0).toInt = (14 : Int) from xeq z) (by omega), fun _ => ?_⟩
    refine ⟨fun _ => ?_, fun z => absurd (show (ps_i s (stc p D.length) 0).toInt = (15 : Int) from er) (xne z)⟩
    exact fs_45_r15 hp hi X hD hG B (hpr.1 (of_decide_eq_true rfl)) k
  · have er : (ps_i s (stc p D.length) 0).toInt = (16 : Int) := t0
    have p1 : n1 < D.length := hpr.1 (of_decide_eq_true rfl)
    refine pl_42_0 (fs_37 (j := 0) (i := n1) hp (stc_is hp hi) hl.2.1 rfl (by decide) (t1 (of_decide_eq_true rfl)) (by omega) (pl_nk_i (fun _ => pl_nk_i (fun _ => ?_))))
    rw [(stc_c hp (i := n1) (by omega)).2.2.2.1]
    refine ⟨fun z => absurd (show (ps_i s (stc p D.length) 0).toInt = (6 : Int) from xeq z) (by omega), fun _ => ?_⟩
    refine ⟨fun z => absurd (show (ps_i s (stc p D.length) 0).toInt = (7 : Int) from xeq z) (by omega), fun _ => ?_⟩
    refine ⟨fun z => absurd (show (ps_i s (stc p D.length) 0).toInt = (8 : Int) from xeq z) (by omega), fun _ => ?_⟩
    refine ⟨fun z => absurd (show (ps_i s (stc p D.length) 0).toInt = (9 : Int) from xeq z) (by omega), fun _ => ?_⟩
    refine ⟨fun z => absurd (show (ps_i s (stc p D.length) 0).toInt = (10 : Int) from xeq z) (by omega), fun _ => ?_⟩
    refine ⟨fun z => absurd (show (ps_i s (stc p D.length) 0).toInt = (11 : Int) from xeq z) (by omega), fun _ => ?_⟩
    refine ⟨fun z => absurd (show (ps_i s (stc p D.length) 0).toInt = (12 : Int) from xeq z) (by omega), fun _ => ?_⟩
    refine ⟨fun z => absurd (show (ps_i s (stc p D.length) 0).toInt = (13 : Int) from xeq z) (by omega), fun _ => ?_⟩
    refine ⟨fun z => absurd (show (ps_i s (stc p D.length) 0).toInt = (14 : Int) from xeq z) (by omega), fun _ => ?_⟩
    refine ⟨fun z => absurd (show (ps_i s (stc p D.length) 0).toInt = (15 : Int) from xeq z) (by omega), fun _ => ?_⟩
    refine ⟨fun _ => ?_, fun z => absurd (show (ps_i s (stc p D.length) 0).toInt = (16 : Int) from er) (xne z)⟩
    exact fs_44_r16 hp hi X hD hG B (hpr.1 (of_decide_eq_true rfl)) k
  · have er : (ps_i s (stc p D.length) 0).toInt = (17 : Int) := t0
    have p1 : n1 < D.length := hpr.1 (of_decide_eq_true rfl)
    refine pl_42_0 (fs_37 (j := 0) (i := n1) hp (stc_is hp hi) hl.2.1 rfl (by decide) (t1 (of_decide_eq_true rfl)) (by omega) (pl_nk_i (fun _ => pl_nk_i (fun _ => ?_))))
    rw [(stc_c hp (i := n1) (by omega)).2.2.2.1]
    refine ⟨fun z => absurd (show (ps_i s (stc p D.length) 0).toInt = (6 : Int) from xeq z) (by omega), fun _ => ?_⟩
    refine ⟨fun z => absurd (show (ps_i s (stc p D.length) 0).toInt = (7 : Int) from xeq z) (by omega), fun _ => ?_⟩
    refine ⟨fun z => absurd (show (ps_i s (stc p D.length) 0).toInt = (8 : Int) from xeq z) (by omega), fun _ => ?_⟩
    refine ⟨fun z => absurd (show (ps_i s (stc p D.length) 0).toInt = (9 : Int) from xeq z) (by omega), fun _ => ?_⟩
    refine ⟨fun z => absurd (show (ps_i s (stc p D.length) 0).toInt = (10 : Int) from xeq z) (by omega), fun _ => ?_⟩
    refine ⟨fun z => absurd (show (ps_i s (stc p D.length) 0).toInt = (11 : Int) from xeq z) (by omega), fun _ => ?_⟩
    refine ⟨fun z => absurd (show (ps_i s (stc p D.length) 0).toInt = (12 : Int) from xeq z) (by omega), fun _ => ?_⟩
    refine ⟨fun z => absurd (show (ps_i s (stc p D.length) 0).toInt = (13 : Int) from xeq z) (by omega), fun _ => ?_⟩
    refine ⟨fun z => absurd (show (ps_i s (stc p D.length) 0).toInt = (14 : Int) from xeq z) (by omega), fun _ => ?_⟩
    refine ⟨fun z => absurd (show (ps_i s (stc p D.length) 0).toInt = (15 : Int) from xeq z) (by omega), fun _ => ?_⟩
    refine ⟨fun z => absurd (show (ps_i s (stc p D.length) 0).toInt = (16 : Int) from xeq z) (by omega), fun _ => ?_⟩
    refine ⟨fun _ => ?_, fun z => absurd (show (ps_i s (stc p D.length) 0).toInt = (17 : Int) from er) (xne z)⟩
    exact fs_44_r17 hp hi X hD hG B (hpr.1 (of_decide_eq_true rfl)) k
  · have er : (ps_i s (stc p D.length) 0).toInt = (18 : Int) := t0
    have p1 : n1 < D.length := hpr.1 (of_decide_eq_true rfl)
    have p2 : n2 < D.length := hpr.2.1 (of_decide_eq_true rfl)
    refine pl_42_0 (fs_37 (j := 0) (i := n1) hp (stc_is hp hi) hl.2.1 rfl (by decide) (t1 (of_decide_eq_true rfl)) (by omega) (pl_nk_i (fun _ => pl_nk_i (fun _ => ?_))))
    rw [(stc_c hp (i := n1) (by omega)).2.2.2.1]
    refine ⟨fun z => absurd (show (ps_i s (stc p D.length) 0).toInt = (6 : Int) from xeq z) (by omega), fun _ => ?_⟩
    refine ⟨fun z => absurd (show (ps_i s (stc p D.length) 0).toInt = (7 : Int) from xeq z) (by omega), fun _ => ?_⟩
    refine ⟨fun z => absurd (show (ps_i s (stc p D.length) 0).toInt = (8 : Int) from xeq z) (by omega), fun _ => ?_⟩
    refine ⟨fun z => absurd (show (ps_i s (stc p D.length) 0).toInt = (9 : Int) from xeq z) (by omega), fun _ => ?_⟩
    refine ⟨fun z => absurd (show (ps_i s (stc p D.length) 0).toInt = (10 : Int) from xeq z) (by omega), fun _ => ?_⟩
    refine ⟨fun z => absurd (show (ps_i s (stc p D.length) 0).toInt = (11 : Int) from xeq z) (by omega), fun _ => ?_⟩
    refine ⟨fun z => absurd (show (ps_i s (stc p D.length) 0).toInt = (12 : Int) from xeq z) (by omega), fun _ => ?_⟩
    refine ⟨fun z => absurd (show (ps_i s (stc p D.length) 0).toInt = (13 : Int) from xeq z) (by omega), fun _ => ?_⟩
    refine ⟨fun z => absurd (show (ps_i s (stc p D.length) 0).toInt = (14 : Int) from xeq z) (by omega), fun _ => ?_⟩
    refine ⟨fun z => absurd (show (ps_i s (stc p D.length) 0).toInt = (15 : Int) from xeq z) (by omega), fun _ => ?_⟩
    refine ⟨fun z => absurd (show (ps_i s (stc p D.length) 0).toInt = (16 : Int) from xeq z) (by omega), fun _ => ?_⟩
    refine ⟨fun z => absurd (show (ps_i s (stc p D.length) 0).toInt = (17 : Int) from xeq z) (by omega), fun _ => ?_⟩
    refine ⟨fun _ => ?_, fun z => absurd (show (ps_i s (stc p D.length) 0).toInt = (18 : Int) from er) (xne z)⟩
    exact fs_46_r18 hp hi X hD hG B (hpr.1 (of_decide_eq_true rfl)) (hpr.2.1 (of_decide_eq_true rfl)) (hpr.2.2 (of_decide_eq_true rfl)) k
  · have er : (ps_i s (stc p D.length) 0).toInt = (19 : Int) := t0
    have p1 : n1 < D.length := hpr.1 (of_decide_eq_true rfl)
    have p2 : n2 < D.length := hpr.2.1 (of_decide_eq_true rfl)
    refine pl_42_0 (fs_37 (j := 0) (i := n1) hp (stc_is hp hi) hl.2.1 rfl (by decide) (t1 (of_decide_eq_true rfl)) (by omega) (pl_nk_i (fun _ => pl_nk_i (fun _ => ?_))))
    rw [(stc_c hp (i := n1) (by omega)).2.2.2.1]
    refine ⟨fun z => absurd (show (ps_i s (stc p D.length) 0).toInt = (6 : Int) from xeq z) (by omega), fun _ => ?_⟩
    refine ⟨fun z => absurd (show (ps_i s (stc p D.length) 0).toInt = (7 : Int) from xeq z) (by omega), fun _ => ?_⟩
    refine ⟨fun z => absurd (show (ps_i s (stc p D.length) 0).toInt = (8 : Int) from xeq z) (by omega), fun _ => ?_⟩
    refine ⟨fun z => absurd (show (ps_i s (stc p D.length) 0).toInt = (9 : Int) from xeq z) (by omega), fun _ => ?_⟩
    refine ⟨fun z => absurd (show (ps_i s (stc p D.length) 0).toInt = (10 : Int) from xeq z) (by omega), fun _ => ?_⟩
    refine ⟨fun z => absurd (show (ps_i s (stc p D.length) 0).toInt = (11 : Int) from xeq z) (by omega), fun _ => ?_⟩
    refine ⟨fun z => absurd (show (ps_i s (stc p D.length) 0).toInt = (12 : Int) from xeq z) (by omega), fun _ => ?_⟩
    refine ⟨fun z => absurd (show (ps_i s (stc p D.length) 0).toInt = (13 : Int) from xeq z) (by omega), fun _ => ?_⟩
    refine ⟨fun z => absurd (show (ps_i s (stc p D.length) 0).toInt = (14 : Int) from xeq z) (by omega), fun _ => ?_⟩
    refine ⟨fun z => absurd (show (ps_i s (stc p D.length) 0).toInt = (15 : Int) from xeq z) (by omega), fun _ => ?_⟩
    refine ⟨fun z => absurd (show (ps_i s (stc p D.length) 0).toInt = (16 : Int) from xeq z) (by omega), fun _ => ?_⟩
    refine ⟨fun z => absurd (show (ps_i s (stc p D.length) 0).toInt = (17 : Int) from xeq z) (by omega), fun _ => ?_⟩
    refine ⟨fun z => absurd (show (ps_i s (stc p D.length) 0).toInt = (18 : Int) from xeq z) (by omega), fun _ => ?_⟩
    refine ⟨fun _ => ?_, fun z => absurd (show (ps_i s (stc p D.length) 0).toInt = (19 : Int) from er) (xne z)⟩
    refine fs_37 (j := 1) (i := n2) hp (stc_is hp hi) hl.2.1 rfl (by decide) (t2 (of_decide_eq_true rfl)) (by omega) (pl_nk_i (fun _ => ?_))
    rw [(stc_c hp (i := n2) (by omega)).2.2.2.1]
    exact fs_47_r19 hp hi X hD hG B (hpr.1 (of_decide_eq_true rfl)) (hpr.2.1 (of_decide_eq_true rfl)) k
  · have er : (ps_i s (stc p D.length) 0).toInt = (20 : Int) := t0
    have p1 : n1 < D.length := hpr.1 (of_decide_eq_true rfl)
    refine pl_42_0 (fs_37 (j := 0) (i := n1) hp (stc_is hp hi) hl.2.1 rfl (by decide) (t1 (of_decide_eq_true rfl)) (by omega) (pl_nk_i (fun _ => pl_nk_i (fun _ => ?_))))
    rw [(stc_c hp (i := n1) (by omega)).2.2.2.1]
    refine ⟨fun z => absurd (show (ps_i s (stc p D.length) 0).toInt = (6 : Int) from xeq z) (by omega), fun _ => ?_⟩
    refine ⟨fun z => absurd (show (ps_i s (stc p D.length) 0).toInt = (7 : Int) from xeq z) (by omega), fun _ => ?_⟩
    refine ⟨fun z => absurd (show (ps_i s (stc p D.length) 0).toInt = (8 : Int) from xeq z) (by omega), fun _ => ?_⟩
    refine ⟨fun z => absurd (show (ps_i s (stc p D.length) 0).toInt = (9 : Int) from xeq z) (by omega), fun _ => ?_⟩
    refine ⟨fun z => absurd (show (ps_i s (stc p D.length) 0).toInt = (10 : Int) from xeq z) (by omega), fun _ => ?_⟩
    refine ⟨fun z => absurd (show (ps_i s (stc p D.length) 0).toInt = (11 : Int) from xeq z) (by omega), fun _ => ?_⟩
    refine ⟨fun z => absurd (show (ps_i s (stc p D.length) 0).toInt = (12 : Int) from xeq z) (by omega), fun _ => ?_⟩
    refine ⟨fun z => absurd (show (ps_i s (stc p D.length) 0).toInt = (13 : Int) from xeq z) (by omega), fun _ => ?_⟩
    refine ⟨fun z => absurd (show (ps_i s (stc p D.length) 0).toInt = (14 : Int) from xeq z) (by omega), fun _ => ?_⟩
    refine ⟨fun z => absurd (show (ps_i s (stc p D.length) 0).toInt = (15 : Int) from xeq z) (by omega), fun _ => ?_⟩
    refine ⟨fun z => absurd (show (ps_i s (stc p D.length) 0).toInt = (16 : Int) from xeq z) (by omega), fun _ => ?_⟩
    refine ⟨fun z => absurd (show (ps_i s (stc p D.length) 0).toInt = (17 : Int) from xeq z) (by omega), fun _ => ?_⟩
    refine ⟨fun z => absurd (show (ps_i s (stc p D.length) 0).toInt = (18 : Int) from xeq z) (by omega), fun _ => ?_⟩
    refine ⟨fun z => absurd (show (ps_i s (stc p D.length) 0).toInt = (19 : Int) from xeq z) (by omega), fun _ => ?_⟩
    refine ⟨fun _ => ?_, fun z => absurd (show (ps_i s (stc p D.length) 0).toInt = (20 : Int) from er) (xne z)⟩
    exact fs_44_r20 hp hi X hD hG B (hpr.1 (of_decide_eq_true rfl)) k
  · have er : (ps_i s (stc p D.length) 0).toInt = (21 : Int) := t0
    have p1 : n1 < D.length := hpr.1 (of_decide_eq_true rfl)
    refine pl_42_0 (fs_37 (j := 0) (i := n1) hp (stc_is hp hi) hl.2.1 rfl (by decide) (t1 (of_decide_eq_true rfl)) (by omega) (pl_nk_i (fun _ => pl_nk_i (fun _ => ?_))))
    rw [(stc_c hp (i := n1) (by omega)).2.2.2.1]
    refine ⟨fun z => absurd (show (ps_i s (stc p D.length) 0).toInt = (6 : Int) from xeq z) (by omega), fun _ => ?_⟩
    refine ⟨fun z => absurd (show (ps_i s (stc p D.length) 0).toInt = (7 : Int) from xeq z) (by omega), fun _ => ?_⟩
    refine ⟨fun z => absurd (show (ps_i s (stc p D.length) 0).toInt = (8 : Int) from xeq z) (by omega), fun _ => ?_⟩
    refine ⟨fun z => absurd (show (ps_i s (stc p D.length) 0).toInt = (9 : Int) from xeq z) (by omega), fun _ => ?_⟩
    refine ⟨fun z => absurd (show (ps_i s (stc p D.length) 0).toInt = (10 : Int) from xeq z) (by omega), fun _ => ?_⟩
    refine ⟨fun z => absurd (show (ps_i s (stc p D.length) 0).toInt = (11 : Int) from xeq z) (by omega), fun _ => ?_⟩
    refine ⟨fun z => absurd (show (ps_i s (stc p D.length) 0).toInt = (12 : Int) from xeq z) (by omega), fun _ => ?_⟩
    refine ⟨fun z => absurd (show (ps_i s (stc p D.length) 0).toInt = (13 : Int) from xeq z) (by omega), fun _ => ?_⟩
    refine ⟨fun z => absurd (show (ps_i s (stc p D.length) 0).toInt = (14 : Int) from xeq z) (by omega), fun _ => ?_⟩
    refine ⟨fun z => absurd (show (ps_i s (stc p D.length) 0).toInt = (15 : Int) from xeq z) (by omega), fun _ => ?_⟩
    refine ⟨fun z => absurd (show (ps_i s (stc p D.length) 0).toInt = (16 : Int) from xeq z) (by omega), fun _ => ?_⟩
    refine ⟨fun z => absurd (show (ps_i s (stc p D.length) 0).toInt = (17 : Int) from xeq z) (by omega), fun _ => ?_⟩
    refine ⟨fun z => absurd (show (ps_i s (stc p D.length) 0).toInt = (18 : Int) from xeq z) (by omega), fun _ => ?_⟩
    refine ⟨fun z => absurd (show (ps_i s (stc p D.length) 0).toInt = (19 : Int) from xeq z) (by omega), fun _ => ?_⟩
    refine ⟨fun z => absurd (show (ps_i s (stc p D.length) 0).toInt = (20 : Int) from xeq z) (by omega), fun _ => ?_⟩
    refine ⟨fun _ => ?_, fun z => absurd (show (ps_i s (stc p D.length) 0).toInt = (21 : Int) from er) (xne z)⟩
    exact fs_49_r21 hp hi X hD hG B (hpr.1 (of_decide_eq_true rfl)) k
  · have er : (ps_i s (stc p D.length) 0).toInt = (22 : Int) := t0
    have p1 : n1 < D.length := hpr.1 (of_decide_eq_true rfl)
    refine pl_42_0 (fs_37 (j := 0) (i := n1) hp (stc_is hp hi) hl.2.1 rfl (by decide) (t1 (of_decide_eq_true rfl)) (by omega) (pl_nk_i (fun _ => pl_nk_i (fun _ => ?_))))
    rw [(stc_c hp (i := n1) (by omega)).2.2.2.1]
    refine ⟨fun z => absurd (show (ps_i s (stc p D.length) 0).toInt = (6 : Int) from xeq z) (by omega), fun _ => ?_⟩
    refine ⟨fun z => absurd (show (ps_i s (stc p D.length) 0).toInt = (7 : Int) from xeq z) (by omega), fun _ => ?_⟩
    refine ⟨fun z => absurd (show (ps_i s (stc p D.length) 0).toInt = (8 : Int) from xeq z) (by omega), fun _ => ?_⟩
    refine ⟨fun z => absurd (show (ps_i s (stc p D.length) 0).toInt = (9 : Int) from xeq z) (by omega), fun _ => ?_⟩
    refine ⟨fun z => absurd (show (ps_i s (stc p D.length) 0).toInt = (10 : Int) from xeq z) (by omega), fun _ => ?_⟩
    refine ⟨fun z => absurd (show (ps_i s (stc p D.length) 0).toInt = (11 : Int) from xeq z) (by omega), fun _ => ?_⟩
    refine ⟨fun z => absurd (show (ps_i s (stc p D.length) 0).toInt = (12 : Int) from xeq z) (by omega), fun _ => ?_⟩
    refine ⟨fun z => absurd (show (ps_i s (stc p D.length) 0).toInt = (13 : Int) from xeq z) (by omega), fun _ => ?_⟩
    refine ⟨fun z => absurd (show (ps_i s (stc p D.length) 0).toInt = (14 : Int) from xeq z) (by omega), fun _ => ?_⟩
    refine ⟨fun z => absurd (show (ps_i s (stc p D.length) 0).toInt = (15 : Int) from xeq z) (by omega), fun _ => ?_⟩
    refine ⟨fun z => absurd (show (ps_i s (stc p D.length) 0).toInt = (16 : Int) from xeq z) (by omega), fun _ => ?_⟩
    refine ⟨fun z => absurd (show (ps_i s (stc p D.length) 0).toInt = (17 : Int) from xeq z) (by omega), fun _ => ?_⟩
    refine ⟨fun z => absurd (show (ps_i s (stc p D.length) 0).toInt = (18 : Int) from xeq z) (by omega), fun _ => ?_⟩
    refine ⟨fun z => absurd (show (ps_i s (stc p D.length) 0).toInt = (19 : Int) from xeq z) (by omega), fun _ => ?_⟩
    refine ⟨fun z => absurd (show (ps_i s (stc p D.length) 0).toInt = (20 : Int) from xeq z) (by omega), fun _ => ?_⟩
    refine ⟨fun z => absurd (show (ps_i s (stc p D.length) 0).toInt = (21 : Int) from xeq z) (by omega), fun _ => ?_⟩
    refine ⟨fun _ => ?_, fun z => absurd (show (ps_i s (stc p D.length) 0).toInt = (22 : Int) from er) (xne z)⟩
    exact fs_50_r22 hp hi X hD hG B (hpr.1 (of_decide_eq_true rfl)) k
  · have er : (ps_i s (stc p D.length) 0).toInt = (23 : Int) := t0
    have p1 : n1 < D.length := hpr.1 (of_decide_eq_true rfl)
    refine pl_42_0 (fs_37 (j := 0) (i := n1) hp (stc_is hp hi) hl.2.1 rfl (by decide) (t1 (of_decide_eq_true rfl)) (by omega) (pl_nk_i (fun _ => pl_nk_i (fun _ => ?_))))
    rw [(stc_c hp (i := n1) (by omega)).2.2.2.1]
    refine ⟨fun z => absurd (show (ps_i s (stc p D.length) 0).toInt = (6 : Int) from xeq z) (by omega), fun _ => ?_⟩
    refine ⟨fun z => absurd (show (ps_i s (stc p D.length) 0).toInt = (7 : Int) from xeq z) (by omega), fun _ => ?_⟩
    refine ⟨fun z => absurd (show (ps_i s (stc p D.length) 0).toInt = (8 : Int) from xeq z) (by omega), fun _ => ?_⟩
    refine ⟨fun z => absurd (show (ps_i s (stc p D.length) 0).toInt = (9 : Int) from xeq z) (by omega), fun _ => ?_⟩
    refine ⟨fun z => absurd (show (ps_i s (stc p D.length) 0).toInt = (10 : Int) from xeq z) (by omega), fun _ => ?_⟩
    refine ⟨fun z => absurd (show (ps_i s (stc p D.length) 0).toInt = (11 : Int) from xeq z) (by omega), fun _ => ?_⟩
    refine ⟨fun z => absurd (show (ps_i s (stc p D.length) 0).toInt = (12 : Int) from xeq z) (by omega), fun _ => ?_⟩
    refine ⟨fun z => absurd (show (ps_i s (stc p D.length) 0).toInt = (13 : Int) from xeq z) (by omega), fun _ => ?_⟩
    refine ⟨fun z => absurd (show (ps_i s (stc p D.length) 0).toInt = (14 : Int) from xeq z) (by omega), fun _ => ?_⟩
    refine ⟨fun z => absurd (show (ps_i s (stc p D.length) 0).toInt = (15 : Int) from xeq z) (by omega), fun _ => ?_⟩
    refine ⟨fun z => absurd (show (ps_i s (stc p D.length) 0).toInt = (16 : Int) from xeq z) (by omega), fun _ => ?_⟩
    refine ⟨fun z => absurd (show (ps_i s (stc p D.length) 0).toInt = (17 : Int) from xeq z) (by omega), fun _ => ?_⟩
    refine ⟨fun z => absurd (show (ps_i s (stc p D.length) 0).toInt = (18 : Int) from xeq z) (by omega), fun _ => ?_⟩
    refine ⟨fun z => absurd (show (ps_i s (stc p D.length) 0).toInt = (19 : Int) from xeq z) (by omega), fun _ => ?_⟩
    refine ⟨fun z => absurd (show (ps_i s (stc p D.length) 0).toInt = (20 : Int) from xeq z) (by omega), fun _ => ?_⟩
    refine ⟨fun z => absurd (show (ps_i s (stc p D.length) 0).toInt = (21 : Int) from xeq z) (by omega), fun _ => ?_⟩
    refine ⟨fun z => absurd (show (ps_i s (stc p D.length) 0).toInt = (22 : Int) from xeq z) (by omega), fun _ => ?_⟩
    refine ⟨fun _ => ?_, fun z => absurd (show (ps_i s (stc p D.length) 0).toInt = (23 : Int) from er) (xne z)⟩
    exact fs_53_r23 hp hi X hD hG B (hpr.1 (of_decide_eq_true rfl)) k
  · have er : (ps_i s (stc p D.length) 0).toInt = (24 : Int) := t0
    have p1 : n1 < D.length := hpr.1 (of_decide_eq_true rfl)
    have p2 : n2 < D.length := hpr.2.1 (of_decide_eq_true rfl)
    refine pl_42_0 (fs_37 (j := 0) (i := n1) hp (stc_is hp hi) hl.2.1 rfl (by decide) (t1 (of_decide_eq_true rfl)) (by omega) (pl_nk_i (fun _ => pl_nk_i (fun _ => ?_))))
    rw [(stc_c hp (i := n1) (by omega)).2.2.2.1]
    refine ⟨fun z => absurd (show (ps_i s (stc p D.length) 0).toInt = (6 : Int) from xeq z) (by omega), fun _ => ?_⟩
    refine ⟨fun z => absurd (show (ps_i s (stc p D.length) 0).toInt = (7 : Int) from xeq z) (by omega), fun _ => ?_⟩
    refine ⟨fun z => absurd (show (ps_i s (stc p D.length) 0).toInt = (8 : Int) from xeq z) (by omega), fun _ => ?_⟩
    refine ⟨fun z => absurd (show (ps_i s (stc p D.length) 0).toInt = (9 : Int) from xeq z) (by omega), fun _ => ?_⟩
    refine ⟨fun z => absurd (show (ps_i s (stc p D.length) 0).toInt = (10 : Int) from xeq z) (by omega), fun _ => ?_⟩
    refine ⟨fun z => absurd (show (ps_i s (stc p D.length) 0).toInt = (11 : Int) from xeq z) (by omega), fun _ => ?_⟩
    refine ⟨fun z => absurd (show (ps_i s (stc p D.length) 0).toInt = (12 : Int) from xeq z) (by omega), fun _ => ?_⟩
    refine ⟨fun z => absurd (show (ps_i s (stc p D.length) 0).toInt = (13 : Int) from xeq z) (by omega), fun _ => ?_⟩
    refine ⟨fun z => absurd (show (ps_i s (stc p D.length) 0).toInt = (14 : Int) from xeq z) (by omega), fun _ => ?_⟩
    refine ⟨fun z => absurd (show (ps_i s (stc p D.length) 0).toInt = (15 : Int) from xeq z) (by omega), fun _ => ?_⟩
    refine ⟨fun z => absurd (show (ps_i s (stc p D.length) 0).toInt = (16 : Int) from xeq z) (by omega), fun _ => ?_⟩
    refine ⟨fun z => absurd (show (ps_i s (stc p D.length) 0).toInt = (17 : Int) from xeq z) (by omega), fun _ => ?_⟩
    refine ⟨fun z => absurd (show (ps_i s (stc p D.length) 0).toInt = (18 : Int) from xeq z) (by omega), fun _ => ?_⟩
    refine ⟨fun z => absurd (show (ps_i s (stc p D.length) 0).toInt = (19 : Int) from xeq z) (by omega), fun _ => ?_⟩
    refine ⟨fun z => absurd (show (ps_i s (stc p D.length) 0).toInt = (20 : Int) from xeq z) (by omega), fun _ => ?_⟩
    refine ⟨fun z => absurd (show (ps_i s (stc p D.length) 0).toInt = (21 : Int) from xeq z) (by omega), fun _ => ?_⟩
    refine ⟨fun z => absurd (show (ps_i s (stc p D.length) 0).toInt = (22 : Int) from xeq z) (by omega), fun _ => ?_⟩
    refine ⟨fun z => absurd (show (ps_i s (stc p D.length) 0).toInt = (23 : Int) from xeq z) (by omega), fun _ => ?_⟩
    refine ⟨fun _ => ?_, fun z => absurd (show (ps_i s (stc p D.length) 0).toInt = (24 : Int) from er) (xne z)⟩
    refine fs_37 (j := 1) (i := n2) hp (stc_is hp hi) hl.2.1 rfl (by decide) (t2 (of_decide_eq_true rfl)) (by omega) ?_
    exact fs_54_r24 hp hi X hD hG B (hpr.1 (of_decide_eq_true rfl)) (hpr.2.1 (of_decide_eq_true rfl)) k
  · have er : (ps_i s (stc p D.length) 0).toInt = (25 : Int) := t0
    have p1 : n1 < D.length := hpr.1 (of_decide_eq_true rfl)
    have p2 : n2 < D.length := hpr.2.1 (of_decide_eq_true rfl)
    refine pl_42_0 (fs_37 (j := 0) (i := n1) hp (stc_is hp hi) hl.2.1 rfl (by decide) (t1 (of_decide_eq_true rfl)) (by omega) (pl_nk_i (fun _ => pl_nk_i (fun _ => ?_))))
    rw [(stc_c hp (i := n1) (by omega)).2.2.2.1]
    refine ⟨fun z => absurd (show (ps_i s (stc p D.length) 0).toInt = (6 : Int) from xeq z) (by omega), fun _ => ?_⟩
    refine ⟨fun z => absurd (show (ps_i s (stc p D.length) 0).toInt = (7 : Int) from xeq z) (by omega), fun _ => ?_⟩
    refine ⟨fun z => absurd (show (ps_i s (stc p D.length) 0).toInt = (8 : Int) from xeq z) (by omega), fun _ => ?_⟩
    refine ⟨fun z => absurd (show (ps_i s (stc p D.length) 0).toInt = (9 : Int) from xeq z) (by omega), fun _ => ?_⟩
    refine ⟨fun z => absurd (show (ps_i s (stc p D.length) 0).toInt = (10 : Int) from xeq z) (by omega), fun _ => ?_⟩
    refine ⟨fun z => absurd (show (ps_i s (stc p D.length) 0).toInt = (11 : Int) from xeq z) (by omega), fun _ => ?_⟩
    refine ⟨fun z => absurd (show (ps_i s (stc p D.length) 0).toInt = (12 : Int) from xeq z) (by omega), fun _ => ?_⟩
    refine ⟨fun z => absurd (show (ps_i s (stc p D.length) 0).toInt = (13 : Int) from xeq z) (by omega), fun _ => ?_⟩
    refine ⟨fun z => absurd (show (ps_i s (stc p D.length) 0).toInt = (14 : Int) from xeq z) (by omega), fun _ => ?_⟩
    refine ⟨fun z => absurd (show (ps_i s (stc p D.length) 0).toInt = (15 : Int) from xeq z) (by omega), fun _ => ?_⟩
    refine ⟨fun z => absurd (show (ps_i s (stc p D.length) 0).toInt = (16 : Int) from xeq z) (by omega), fun _ => ?_⟩
    refine ⟨fun z => absurd (show (ps_i s (stc p D.length) 0).toInt = (17 : Int) from xeq z) (by omega), fun _ => ?_⟩
    refine ⟨fun z => absurd (show (ps_i s (stc p D.length) 0).toInt = (18 : Int) from xeq z) (by omega), fun _ => ?_⟩
    refine ⟨fun z => absurd (show (ps_i s (stc p D.length) 0).toInt = (19 : Int) from xeq z) (by omega), fun _ => ?_⟩
    refine ⟨fun z => absurd (show (ps_i s (stc p D.length) 0).toInt = (20 : Int) from xeq z) (by omega), fun _ => ?_⟩
    refine ⟨fun z => absurd (show (ps_i s (stc p D.length) 0).toInt = (21 : Int) from xeq z) (by omega), fun _ => ?_⟩
    refine ⟨fun z => absurd (show (ps_i s (stc p D.length) 0).toInt = (22 : Int) from xeq z) (by omega), fun _ => ?_⟩
    refine ⟨fun z => absurd (show (ps_i s (stc p D.length) 0).toInt = (23 : Int) from xeq z) (by omega), fun _ => ?_⟩
    refine ⟨fun z => absurd (show (ps_i s (stc p D.length) 0).toInt = (24 : Int) from xeq z) (by omega), fun _ => ?_⟩
    refine ⟨fun _ => ?_, fun z => absurd (show (ps_i s (stc p D.length) 0).toInt = (25 : Int) from er) (xne z)⟩
    refine fs_37 (j := 1) (i := n2) hp (stc_is hp hi) hl.2.1 rfl (by decide) (t2 (of_decide_eq_true rfl)) (by omega) (pl_nk_i (fun _ => ?_))
    rw [(stc_c hp (i := n2) (by omega)).2.2.2.1]
    exact fs_55_r25 hp hi X hD hG B (hpr.1 (of_decide_eq_true rfl)) (hpr.2.1 (of_decide_eq_true rfl)) k
  · have er : (ps_i s (stc p D.length) 0).toInt = (26 : Int) := t0
    have p1 : n1 < D.length := hpr.1 (of_decide_eq_true rfl)
    refine pl_42_0 (fs_37 (j := 0) (i := n1) hp (stc_is hp hi) hl.2.1 rfl (by decide) (t1 (of_decide_eq_true rfl)) (by omega) (pl_nk_i (fun _ => pl_nk_i (fun _ => ?_))))
    rw [(stc_c hp (i := n1) (by omega)).2.2.2.1]
    refine ⟨fun z => absurd (show (ps_i s (stc p D.length) 0).toInt = (6 : Int) from xeq z) (by omega), fun _ => ?_⟩
    refine ⟨fun z => absurd (show (ps_i s (stc p D.length) 0).toInt = (7 : Int) from xeq z) (by omega), fun _ => ?_⟩
    refine ⟨fun z => absurd (show (ps_i s (stc p D.length) 0).toInt = (8 : Int) from xeq z) (by omega), fun _ => ?_⟩
    refine ⟨fun z => absurd (show (ps_i s (stc p D.length) 0).toInt = (9 : Int) from xeq z) (by omega), fun _ => ?_⟩
    refine ⟨fun z => absurd (show (ps_i s (stc p D.length) 0).toInt = (10 : Int) from xeq z) (by omega), fun _ => ?_⟩
    refine ⟨fun z => absurd (show (ps_i s (stc p D.length) 0).toInt = (11 : Int) from xeq z) (by omega), fun _ => ?_⟩
    refine ⟨fun z => absurd (show (ps_i s (stc p D.length) 0).toInt = (12 : Int) from xeq z) (by omega), fun _ => ?_⟩
    refine ⟨fun z => absurd (show (ps_i s (stc p D.length) 0).toInt = (13 : Int) from xeq z) (by omega), fun _ => ?_⟩
    refine ⟨fun z => absurd (show (ps_i s (stc p D.length) 0).toInt = (14 : Int) from xeq z) (by omega), fun _ => ?_⟩
    refine ⟨fun z => absurd (show (ps_i s (stc p D.length) 0).toInt = (15 : Int) from xeq z) (by omega), fun _ => ?_⟩
    refine ⟨fun z => absurd (show (ps_i s (stc p D.length) 0).toInt = (16 : Int) from xeq z) (by omega), fun _ => ?_⟩
    refine ⟨fun z => absurd (show (ps_i s (stc p D.length) 0).toInt = (17 : Int) from xeq z) (by omega), fun _ => ?_⟩
    refine ⟨fun z => absurd (show (ps_i s (stc p D.length) 0).toInt = (18 : Int) from xeq z) (by omega), fun _ => ?_⟩
    refine ⟨fun z => absurd (show (ps_i s (stc p D.length) 0).toInt = (19 : Int) from xeq z) (by omega), fun _ => ?_⟩
    refine ⟨fun z => absurd (show (ps_i s (stc p D.length) 0).toInt = (20 : Int) from xeq z) (by omega), fun _ => ?_⟩
    refine ⟨fun z => absurd (show (ps_i s (stc p D.length) 0).toInt = (21 : Int) from xeq z) (by omega), fun _ => ?_⟩
    refine ⟨fun z => absurd (show (ps_i s (stc p D.length) 0).toInt = (22 : Int) from xeq z) (by omega), fun _ => ?_⟩
    refine ⟨fun z => absurd (show (ps_i s (stc p D.length) 0).toInt = (23 : Int) from xeq z) (by omega), fun _ => ?_⟩
    refine ⟨fun z => absurd (show (ps_i s (stc p D.length) 0).toInt = (24 : Int) from xeq z) (by omega), fun _ => ?_⟩
    refine ⟨fun z => absurd (show (ps_i s (stc p D.length) 0).toInt = (25 : Int) from xeq z) (by omega), fun _ => ?_⟩
    exact fs_48_r26 hp hi X hD hG B (hpr.1 (of_decide_eq_true rfl)) k
  · have er : (ps_i s (stc p D.length) 0).toInt = (27 : Int) := t0
    have p1 : n1 < D.length := hpr.1 (of_decide_eq_true rfl)
    refine pl_42_0 (fs_37 (j := 0) (i := n1) hp (stc_is hp hi) hl.2.1 rfl (by decide) (t1 (of_decide_eq_true rfl)) (by omega) (pl_nk_i (fun _ => pl_nk_i (fun _ => ?_))))
    rw [(stc_c hp (i := n1) (by omega)).2.2.2.1]
    refine ⟨fun z => absurd (show (ps_i s (stc p D.length) 0).toInt = (6 : Int) from xeq z) (by omega), fun _ => ?_⟩
    refine ⟨fun z => absurd (show (ps_i s (stc p D.length) 0).toInt = (7 : Int) from xeq z) (by omega), fun _ => ?_⟩
    refine ⟨fun z => absurd (show (ps_i s (stc p D.length) 0).toInt = (8 : Int) from xeq z) (by omega), fun _ => ?_⟩
    refine ⟨fun z => absurd (show (ps_i s (stc p D.length) 0).toInt = (9 : Int) from xeq z) (by omega), fun _ => ?_⟩
    refine ⟨fun z => absurd (show (ps_i s (stc p D.length) 0).toInt = (10 : Int) from xeq z) (by omega), fun _ => ?_⟩
    refine ⟨fun z => absurd (show (ps_i s (stc p D.length) 0).toInt = (11 : Int) from xeq z) (by omega), fun _ => ?_⟩
    refine ⟨fun z => absurd (show (ps_i s (stc p D.length) 0).toInt = (12 : Int) from xeq z) (by omega), fun _ => ?_⟩
    refine ⟨fun z => absurd (show (ps_i s (stc p D.length) 0).toInt = (13 : Int) from xeq z) (by omega), fun _ => ?_⟩
    refine ⟨fun z => absurd (show (ps_i s (stc p D.length) 0).toInt = (14 : Int) from xeq z) (by omega), fun _ => ?_⟩
    refine ⟨fun z => absurd (show (ps_i s (stc p D.length) 0).toInt = (15 : Int) from xeq z) (by omega), fun _ => ?_⟩
    refine ⟨fun z => absurd (show (ps_i s (stc p D.length) 0).toInt = (16 : Int) from xeq z) (by omega), fun _ => ?_⟩
    refine ⟨fun z => absurd (show (ps_i s (stc p D.length) 0).toInt = (17 : Int) from xeq z) (by omega), fun _ => ?_⟩
    refine ⟨fun z => absurd (show (ps_i s (stc p D.length) 0).toInt = (18 : Int) from xeq z) (by omega), fun _ => ?_⟩
    refine ⟨fun z => absurd (show (ps_i s (stc p D.length) 0).toInt = (19 : Int) from xeq z) (by omega), fun _ => ?_⟩
    refine ⟨fun z => absurd (show (ps_i s (stc p D.length) 0).toInt = (20 : Int) from xeq z) (by omega), fun _ => ?_⟩
    refine ⟨fun z => absurd (show (ps_i s (stc p D.length) 0).toInt = (21 : Int) from xeq z) (by omega), fun _ => ?_⟩
    refine ⟨fun z => absurd (show (ps_i s (stc p D.length) 0).toInt = (22 : Int) from xeq z) (by omega), fun _ => ?_⟩
    refine ⟨fun z => absurd (show (ps_i s (stc p D.length) 0).toInt = (23 : Int) from xeq z) (by omega), fun _ => ?_⟩
    refine ⟨fun z => absurd (show (ps_i s (stc p D.length) 0).toInt = (24 : Int) from xeq z) (by omega), fun _ => ?_⟩
    refine ⟨fun z => absurd (show (ps_i s (stc p D.length) 0).toInt = (25 : Int) from xeq z) (by omega), fun _ => ?_⟩
    exact fs_48_r27 hp hi X hD hG B (hpr.1 (of_decide_eq_true rfl)) k
end S42

/-- too much: pieces, depth, or what is assumed -/
theorem fs_41 {n p i th : Nat} {g : tx_g} {L : List Nat} {b12 : Prop} {s : ps_S} {R : Int32 → ps_S → Prop} (hp : p = 50 ∨ p = 460) (hi : i < 40) (hth : th = 2 ∨ th = 26) (h6 : ps_r s p 6 = th) (H : cv_E s th g) (hw : L.length ≤ 40 → ws (sg g) L [true]) (W : CW s (stc p i + 6) L) (hb : ps_i s (stc p i) 9 = 0 ↔ b12) (k1 : ∀ s', (¬ (L.length ≤ 40 ∧ b12 ∧ dp (arh g) L)) ∧ cfr (CSh (p + 16)) s s' → R 1 s') (k0 : ∀ s', (L.length ≤ 40 ∧ b12 ∧ dp (arh g) L) ∧ cfr (CSh (p + 16)) s s' → R 0 s') : pl_Cl n 41 [.ref p, .ref (stc p i)] s (ps_rI R) := by
  cases n with
  | zero => exact pl_At_0
  | succ n =>
  show pl_At (n + 1) 41 0 [(0, .ref p), (1, .ref (stc p i))] [] s (ps_rI R)
  obtain ⟨-, -, ⟨-, -, -, -, -, c5⟩, -, -, -, i6, -⟩ := prf hp
  have hl := stc_lt hp hi
  obtain ⟨cc1, cc4, cc5, cc6, cc8⟩ := stc_c hp hi
  refine pl_41_0 (pl_nk_i (fun _ => ?_))
  rw [cc6]
  refine pl_nk_i (fun _ => ⟨fun z => ?_, fun z => pl_nk_i (fun _ => ⟨fun z2 => ?_, fun z2 => ?_⟩)⟩)
  · exact k1 s ⟨fun y => z (W.2.1 y.1).2.1, cfr_refl⟩
  · have h40 : L.length ≤ 40 := by
      rcases Nat.lt_or_ge 40 L.length with y | y
      · exact absurd z (W.2.2 y)
      · exact y
    refine pl_nk_i (fun _ => pl_nk_i (fun _ => pl_nk_i (fun _ => ?_)))
    rw [c5, h6]
    refine fs_103 (r := p + 16) (r1 := stc p i + 6) (l := L) i6 (stc_row hp hi).2.2 hth (by omega) (hw h40) (Or.inl rfl) (W.2.1 h40) H (fun s1 Z F1 => pl_nk_i (fun _ => ?_))
    exact fs_106 i6 Z.2 (fun u => pl_nk_i (fun _ => k1 s1 ⟨fun y => u y.2.2, F1⟩)) (fun u => pl_nk_i (fun _ => k0 s1 ⟨⟨h40, hb.mp z2, u⟩, F1⟩))
  · exact k1 s ⟨fun y => z2 (hb.mpr y.2.1), cfr_refl⟩
/-! premise by premise -/
def pr_k (st : tp_P) (k : Nat) : Nat := if k = 0 then st.1.2.1 else if k = 1 then st.1.2.2.1 else st.1.2.2.2
def ou_k (o : List Nat × (List Nat × List Nat)) (k : Nat) : List Nat := if k = 0 then o.1 else if k = 1 then o.2.1 else o.2.2
def tq_zi (D : List tq_R) (F : tq_R → Int32) (z : Int32) (st : tp_P) : Nat → Int32
  | 0 => z
  | k + 1 => tq_zi D F z st k ||| F (D.getD (pr_k st k) ([], [], 0, 0, 0))
def tq_zj (D : List tq_R) (F : tq_R → Int64) (z : Int64) (st : tp_P) : Nat → Int64
  | 0 => z
  | k + 1 => tq_zj D F z st k ||| F (D.getD (pr_k st k) ([], [], 0, 0, 0))
def tq_za (D : List tq_R) (st : tp_P) (o : List Nat × (List Nat × List Nat)) : Nat → List (List Nat)
  | 0 => []
  | k + 1 => tq_ga (ou_k o k) (tq_za D st o k) (tq_a D (pr_k st k))
theorem tq_np_le {r : Nat} : tq_np r ≤ 3 := by
  unfold tq_np
  split
  · decide
  · exact tp_nn_le
theorem tq_zi_is {D : List tq_R} {F : tq_R → Int32} {z : Int32} {st : tp_P} : tq_or D F z st = tq_zi D F z st (tq_np st.1.1) := by
  unfold tq_or
  have h3 := tq_np_le (r := st.1.1)
  generalize tq_np st.1.1 = m at *
  rcases (show m = 0 ∨ m = 1 ∨ m = 2 ∨ m = 3 by omega) with rfl | rfl | rfl | rfl <;> rfl
theorem tq_zj_is {D : List tq_R} {F : tq_R → Int64} {z : Int64} {st : tp_P} : tq_oj D F z st = tq_zj D F z st (tq_np st.1.1) := by
  unfold tq_oj
  have h3 := tq_np_le (r := st.1.1)
  generalize tq_np st.1.1 = m at *
  rcases (show m = 0 ∨ m = 1 ∨ m = 2 ∨ m = 3 by omega) with rfl | rfl | rfl | rfl <;> rfl
theorem tq_za_is {D : List tq_R} {st : tp_P} {o : List Nat × (List Nat × List Nat)} (h11 : st.1.1 ≠ 11) : tq_as D st o = tq_za D st o (tq_np st.1.1) := by
  unfold tq_as
  rw [if_neg h11]
  have h3 := tq_np_le (r := st.1.1)
  generalize tq_np st.1.1 = m at *
  rcases (show m = 0 ∨ m = 1 ∨ m = 2 ∨ m = 3 by omega) with rfl | rfl | rfl | rfl <;> rfl
/-- premises that are there -/
theorem pr_lt_k {Θ : List tq_H} {D : List tq_R} {st : tp_P} (h : tq_pr Θ D st) {k : Nat} (hk : k < tq_np st.1.1) : pr_k st k < D.length ∧ k < tp_nn st.1.1 := by
  have h12 : st.1.1 ≠ 12 := fun e => by
    unfold tq_np at hk
    rw [if_pos e] at hk
    omega
  have e : tq_np st.1.1 = tp_nn st.1.1 := by
    unfold tq_np
    rw [if_neg h12]
  unfold tq_pr at h
  rw [if_neg h12] at h
  have h3 := tp_nn_le (r := st.1.1)
  refine ⟨?_, by omega⟩
  unfold pr_k
  rcases (show k = 0 ∨ k = 1 ∨ k = 2 by omega) with rfl | rfl | rfl
  · exact h.1 (by omega)
  · exact h.2.1 (by omega)
  · exact h.2.2 (by omega)
theorem cpN_k {s : ps_S} {t : Nat} {st : tp_P} (N : cpN s t st) {k : Nat} (hk : k < tp_nn st.1.1) : (ps_a s (t + 1) k).toInt = pr_k st k ∧ k < 3 := by
  have h3 := tp_nn_le (r := st.1.1)
  refine ⟨?_, by omega⟩
  unfold pr_k
  rcases (show k = 0 ∨ k = 1 ∨ k = 2 by omega) with rfl | rfl | rfl
  · exact N.2.1 (by omega)
  · exact N.2.2.1 (by omega)
  · exact N.2.2.2 (by omega)
/-- what stands when k premises are gone through -/
def cpI (s : ps_S) (p : Nat) (h : tx_H) (Θ : List tq_H) (D : List tq_R) (st : tp_P) (k : Nat) : Prop := (CW s (stc p D.length + 6) (tq_mk h Θ D st).2.1 ∧ ∀ j, j < 3 → CW s (otc p j) (ou_k (tq_mk h Θ D st).2.2 j)) ∧ (ps_i s (stc p D.length) 10 = tq_zi D (fun q => q.2.2.1) (if st.1.1 = 10 then tq_b st.2.1.1 else 0) st k ∧ ps_i s (stc p D.length) 11 = tq_zi D (fun q => q.2.2.2.1) (if st.1.1 = 12 then tq_b st.1.2.1 else 0) st k ∧ ps_j s (stc p D.length) 12 = tq_zj D (fun q => q.2.2.2.2) ((1 : Int64) <<< (Int32.toInt64 (nI D.length) &&& 63)) st k) ∧ (st.1.1 ≠ 11 → PA s (stc p D.length) D (tq_za D st (tq_mk h Θ D st).2.2 k)) ∧ (st.1.1 = 11 → (ps_i s (stc p D.length) 8).toInt = 1 ∧ ps_i s (stc p D.length) 9 = 0 ∧ (ps_a s (stc p D.length + 8) 0).toInt = D.length) ∧ cpN s (stc p D.length) st
section S35
variable {p th : Nat} {h : tx_H} {Θ : List tq_H} {D : List tq_R} {st : tp_P} {s0 : ps_S} {R : Int32 → ps_S → Prop}
theorem CTO_X {s : ps_S} (hp : p = 50 ∨ p = 460) (hi : D.length < 40) (X : cpX s0 p th h Θ D st) (F : cfr (CTO p D.length) s0 s) : (cv_H s th h ∧ ps_r s p 6 = th) ∧ cSh s 870 Θ ∧ cpD s p D ∧ cv_W s (p + 12) [] := by
  obtain ⟨⟨x1, x2, x3⟩, x4, x5, x6, x7⟩ := X
  have hl := stc_lt hp hi
  have h8 := x1.2.2.1
  exact ⟨⟨cv_H_cfr x1 F (fun q a b => by unfold CTO; omega), by rw [(F p (by unfold CTO; omega)).2.2.1]; exact x2⟩, cSh_cfr x4 F (fun q a b => by unfold CTO; omega), cpD_cfr x5 F (fun q a b => by unfold CTO; unfold stc at *; omega), cv_W_cfr x7 F (by unfold CTO; omega) (by unfold CTO; omega)⟩
theorem fs_35_73 (hp : p = 50 ∨ p = 460) (hi : D.length < 40) (X : cpX s0 p th h Θ D st) (hD : tq_GD h.1 D) (hG : tp_G h.1 h.2.length st) (hpr : tq_pr Θ D st) (hw : (tq_mk h Θ D st).2.1.length ≤ 40 → ws (sg h.1) (tq_mk h Θ D st).2.1 [true]) (hm0 : (tq_mk h Θ D st).1 = 0) (k : ∀ (v : Int32) s', (v.toInt = tq_cs h Θ D st ∧ (tq_cs h Θ D st = 0 → cpD s' p (D ++ [tq_res h Θ D st])) ∧ cfr (CTO p D.length) s0 s') → R v s') : ∀ (n : Nat) {s : ps_S} {x5 : Int32} {m : Nat}, x5.toInt = m → m ≤ tq_np st.1.1 → cpI s p h Θ D st m → cfr (CTO p D.length) s0 s → pl_At n 35 73 [(0, .ref p), (3, .ref (stc p D.length)), (5, .int x5)] [] s (ps_rI R)
  | 0, _, _, _, _, _, _, _ => pl_At_0
  | n + 1, s, x5, m, hx, hm, I, F => by
    have hl := stc_lt hp hi
    have h3 := tq_np_le (r := st.1.1)
    obtain ⟨⟨y1, y2⟩, y4, y5, y7⟩ := CTO_X hp hi X F
    obtain ⟨⟨i1, i2⟩, ⟨i3, i4, i5⟩, i6, i7, i8⟩ := id I
    have hth := X.1.2.2
    refine pl_35_73 (pl_nk_i (fun _ => fs_116 i8.1 hG.1 (fun v1 q1 => ⟨fun z => ?_, fun z => ?_⟩)))
    · have z := xle z
      have em : m = tq_np st.1.1 := by omega
      subst em
      have eres : tq_res h Θ D st = ((tq_mk h Θ D st).2.1, tq_as D st (tq_mk h Θ D st).2.2, ps_i s (stc p D.length) 10, ps_i s (stc p D.length) 11, ps_j s (stc p D.length) 12) := by
        unfold tq_res
        rw [tq_zi_is, tq_zi_is, tq_zj_is, ← i3, ← i4, ← i5]
      have hb : ps_i s (stc p D.length) 9 = 0 ↔ (tq_as D st (tq_mk h Θ D st).2.2).length ≤ 12 := by
        by_cases e11 : st.1.1 = 11
        · have ea : tq_as D st (tq_mk h Θ D st).2.2 = [st.2.2.2] := by unfold tq_as; rw [if_pos e11]
          rw [ea]
          exact ⟨fun _ => (show 1 ≤ 12 from by decide), fun _ => (i7 e11).2.1⟩
        · have P := i6 e11
          rw [← tq_za_is e11] at P
          constructor
          · intro e
            rcases Nat.lt_or_ge 12 (tq_as D st (tq_mk h Θ D st).2.2).length with u | u
            · exact absurd e (P.2.2.2.1 u)
            · exact u
          · exact P.2.2.1
      refine fs_41 hp hi hth y2 y1.1 hw i1 hb (fun s2 q => ⟨fun u => absurd u (by decide), fun _ => ?_⟩) (fun s2 q => ⟨fun _ => ?_, fun u => absurd rfl u⟩)
      · obtain ⟨q, F2⟩ := q
        have hc := tq_cs_5 (h := h) hpr hm0 (fun w : tq_fit h (tq_res h Θ D st) => q ⟨w.1, w.2.1, w.2.2⟩)
        refine k _ _ ⟨by rw [hc]; rfl, fun e => absurd e (by rw [hc]; decide), cfr_tr F (cfr_mono F2 CSh_CTO)⟩
      · obtain ⟨q, F2⟩ := q
        have hfit : tq_fit h (tq_res h Θ D st) := ⟨q.1, q.2.1, q.2.2⟩
        have hc := tq_cs_0 hpr hm0 hfit
        refine k _ _ ⟨by rw [hc]; rfl, fun _ => ?_, cfr_tr F (cfr_mono F2 CSh_CTO)⟩
        have hlen : (D ++ [tq_res h Θ D st]).length = D.length + 1 := List.length_append
        refine ⟨by omega, fun kk Rk hk => ?_⟩
        have y52 := cpD_cfr y5 F2 (fun q a b => by unfold CSh; unfold stc at *; omega)
        have ext : ∀ {o : Nat} {q : tq_R}, D[o]? = some q → (D ++ [tq_res h Θ D st])[o]? = some q := fun {o q} e => by
          rw [List.getElem?_append_left (List.getElem?_eq_some_iff.mp e).1]
          exact e
        rcases Nat.lt_or_ge kk D.length with u | u
        · rw [List.getElem?_append_left u] at hk
          obtain ⟨a1, a2, a3, a4, a5⟩ := y52.2 kk Rk hk
          refine ⟨a1, a2, a3, fun n' y hy => ?_, a5⟩
          obtain ⟨o, q, e1, e2, e3⟩ := a4 n' y hy
          exact ⟨o, q, e1, ext e2, e3⟩
        · have hkl := (List.getElem?_eq_some_iff.mp hk).1
          have ek : kk = D.length := by omega
          subst ek
          rw [List.getElem?_append_right (Nat.le_refl _), Nat.sub_self] at hk
          have eR : tq_res h Θ D st = Rk := Option.some.inj hk
          rw [← eR, eres]
          have f0 := F2 (stc p D.length) (by unfold CSh; omega)
          have f8 := F2 (stc p D.length + 8) (by unfold CSh; omega)
          refine ⟨cv_W_cfr (i1.2.1 q.1) F2 (by unfold CSh; omega) (by unfold CSh; omega), ?_, q.2.1, fun n' y hy => ?_, by rw [f0.1], by rw [f0.1], by rw [f0.2.1]⟩
          · rw [f0.1]
            by_cases e11 : st.1.1 = 11
            · have ea : tq_as D st (tq_mk h Θ D st).2.2 = [st.2.2.2] := by unfold tq_as; rw [if_pos e11]
              show _ = ((tq_as D st (tq_mk h Θ D st).2.2).length : Int)
              rw [ea]
              exact (i7 e11).1
            · have P := i6 e11
              rw [← tq_za_is e11] at P
              show _ = ((tq_as D st (tq_mk h Θ D st).2.2).length : Int)
              have := P.1
              have q21 : (tq_as D st (tq_mk h Θ D st).2.2).length ≤ 12 := q.2.1
              omega
          · rw [f8.2.2.2.1]
            have hy : (tq_as D st (tq_mk h Θ D st).2.2)[n']? = some y := hy
            by_cases e11 : st.1.1 = 11
            · have ea : tq_as D st (tq_mk h Θ D st).2.2 = [st.2.2.2] := by unfold tq_as; rw [if_pos e11]
              rw [ea] at hy
              have hn := (List.getElem?_eq_some_iff.mp hy).1
              have en : n' = 0 := by rw [List.length_singleton] at hn; omega
              subst en
              cases hy
              refine ⟨D.length, tq_res h Θ D st, (i7 e11).2.2, by rw [List.getElem?_append_right (Nat.le_refl _), Nat.sub_self, ← eres]; rfl, ?_⟩
              obtain ⟨⟨r, n1, n2, n3⟩, ⟨ax, x⟩, tt, f⟩ := st
              have e11 : r = 11 := e11
              subst e11
              rfl
            · have P := i6 e11
              rw [← tq_za_is e11] at P
              have hn := (List.getElem?_eq_some_iff.mp hy).1
              have q21 : (tq_as D st (tq_mk h Θ D st).2.2).length ≤ 12 := q.2.1
              obtain ⟨o, q', e1, e2, e3⟩ := P.2.2.2.2 n' y (by omega) hy
              exact ⟨o, q', e1, by rw [← eres]; exact ext e2, e3⟩
    · have z := xlt z
      have hmn : m < tq_np st.1.1 := by omega
      obtain ⟨hlt, hnn⟩ := pr_lt_k hpr hmn
      obtain ⟨en, hm3⟩ := cpN_k i8 hnn
      obtain ⟨Rm, e1, e2, e3, e4⟩ := tq_at hlt
      have hRm := y5.2 (pr_k st m) Rm e1
      have hne : stc p (pr_k st m) ≠ stc p D.length := by unfold stc; omega
      have hne8 : stc p (pr_k st m) + 9 ≤ stc p D.length := by unfold stc; omega
      have e11 : st.1.1 ≠ 11 := fun e => by
        rw [e] at hmn
        exact absurd hmn (Nat.not_lt_zero _)
      have P := i6 e11
      refine fs_37 (j := m) (i := pr_k st m) hp (stc_is hp hi) hl.2.1 hx hm3 en (by omega) ?_
      refine fs_124 hne ?_
      have G : ∀ q, q ≠ stc p D.length → (∀ f, ps_i (ps_uj (ps_ui (ps_ui s (stc p D.length) 10 (ps_i s (stc p D.length) 10 ||| ps_i s (stc p (pr_k st m)) 10)) (stc p D.length) 11 (ps_i s (stc p D.length) 11 ||| ps_i s (stc p (pr_k st m)) 11)) (stc p D.length) 12 (ps_j s (stc p D.length) 12 ||| ps_j s (stc p (pr_k st m)) 12)) q f = ps_i s q f) := fun q hq f => by
        show ps_i (ps_ui (ps_ui s _ 10 _) _ 11 _) q f = _
        rw [ps_i_ui, if_neg (by omega), ps_i_ui, if_neg (by omega)]
      generalize hs3 : (ps_uj (ps_ui (ps_ui s (stc p D.length) 10 (ps_i s (stc p D.length) 10 ||| ps_i s (stc p (pr_k st m)) 10)) (stc p D.length) 11 (ps_i s (stc p D.length) 11 ||| ps_i s (stc p (pr_k st m)) 11)) (stc p D.length) 12 (ps_j s (stc p D.length) 12 ||| ps_j s (stc p (pr_k st m)) 12)) = s3
      have F3 : cfr (fun q => q = stc p D.length) s s3 := by
        rw [← hs3]
        exact cfr_j (cfr_i (cfr_i cfr_refl rfl) rfl) rfl
      have g10 : ps_i s3 (stc p D.length) 10 = ps_i s (stc p D.length) 10 ||| Rm.2.2.1 := by
        rw [← hs3, ← hRm.2.2.2.2.1]
        show ps_i (ps_ui (ps_ui s _ 10 _) _ 11 _) _ 10 = _
        rw [ps_i_ui, if_neg (by omega), ps_i_ui, if_pos ⟨rfl, rfl⟩]
      have g11 : ps_i s3 (stc p D.length) 11 = ps_i s (stc p D.length) 11 ||| Rm.2.2.2.1 := by
        rw [← hs3, ← hRm.2.2.2.2.2.1]
        show ps_i (ps_ui (ps_ui s _ 10 _) _ 11 _) _ 11 = _
        rw [ps_i_ui, if_pos ⟨rfl, rfl⟩]
      have g12 : ps_j s3 (stc p D.length) 12 = ps_j s (stc p D.length) 12 ||| Rm.2.2.2.2 := by
        rw [← hs3, ← hRm.2.2.2.2.2.2, ps_j_uj, if_pos ⟨rfl, rfl⟩]
      have gf : ∀ f, f ≠ 10 → f ≠ 11 → ps_i s3 (stc p D.length) f = ps_i s (stc p D.length) f := fun f h10 h11 => by
        rw [← hs3]
        show ps_i (ps_ui (ps_ui s _ 10 _) _ 11 _) _ f = _
        rw [ps_i_ui, if_neg (by omega), ps_i_ui, if_neg (by omega)]
      clear hs3 G
      have y53 := cpD_cfr y5 F3 (fun q a b => by unfold stc at *; omega)
      have P3 : PA s3 (stc p D.length) D (tq_za D st (tq_mk h Θ D st).2.2 m) := by
        obtain ⟨p1, p2, p3, p4, p5⟩ := P
        refine ⟨by rw [gf 8 (by decide) (by decide)]; exact p1, p2, fun u => by rw [gf 9 (by decide) (by decide)]; exact p3 u, fun u => by rw [gf 9 (by decide) (by decide)]; exact p4 u, fun n' y hn hy => ?_⟩
        rw [(F3 (stc p D.length + 8) (by omega)).2.2.2.1]
        exact p5 n' y hn hy
      have N3 : cpN s3 (stc p D.length) st := cpN_eq i8 (gf 0 (by decide) (by decide)) (F3 (stc p D.length + 1) (by omega)).2.2.2.1
      obtain ⟨en3, -⟩ := cpN_k N3 hnn
      refine fs_37 (j := m) (i := pr_k st m) hp (stc_is hp hi) hl.2.1 hx hm3 en3 (by omega) ?_
      refine fs_38 (i := m) hp hx hm3 ?_
      refine fs_39 (j := pr_k st m) (Rj := Rm) (oo := ou_k (tq_mk h Θ D st).2.2 m) hp hi y53 (Nat.le_refl _) e1 ((prf hp).2.1 m hm3).2 (CW_cfr (i2 m hm3) F3 (by unfold otc; omega) (by unfold otc; omega)) (by unfold otc; omega) P3 (fun s7 P7 Q7 => ?_)
      have F7 : cfr (CST p D.length) s s7 := cfr_tr (cfr_mono F3 (fun q z => Or.inl z)) Q7.1
      refine fs_35_73 hp hi X hD hG hpr hw hm0 k n (xj1 hx (by omega)) (by omega) ⟨⟨CW_cfr i1 F7 (by unfold CST; omega) (by unfold CST; omega), fun j hj => CW_cfr (i2 j hj) F7 (by unfold CST otc; omega) (by unfold CST otc; omega)⟩, ⟨?_, ?_, ?_⟩, fun _ => ?_, fun e => absurd e e11, cpN_eq N3 (Q7.2.1 0 (by decide) (by decide)) (Q7.1 (stc p D.length + 1) (by unfold CST; omega)).2.2.2.1⟩ (cfr_tr F (cfr_mono F7 (fun q z => by unfold CST at z; unfold CTO; omega)))
      · rw [Q7.2.1 10 (by decide) (by decide), g10, i3]
        show _ = tq_zi D _ _ st m ||| (D.getD (pr_k st m) ([], [], 0, 0, 0)).2.2.1
        rw [e4]
      · rw [Q7.2.1 11 (by decide) (by decide), g11, i4]
        show _ = tq_zi D _ _ st m ||| (D.getD (pr_k st m) ([], [], 0, 0, 0)).2.2.2.1
        rw [e4]
      · rw [Q7.2.2, g12, i5]
        show _ = tq_zj D _ _ st m ||| (D.getD (pr_k st m) ([], [], 0, 0, 0)).2.2.2.2
        rw [e4]
      · show PA s7 _ D (tq_ga _ _ (tq_a D (pr_k st m)))
        rw [e3]
        exact P7
/-- what begins a step: what is left out is cleared -/
theorem fs_35_21 {x1 : Int32} (hp : p = 50 ∨ p = 460) (hi : D.length < 40) (X : cpX s0 p th h Θ D st) (B0 : (ps_i s0 (stc p D.length) 8).toInt = 0 ∧ ps_i s0 (stc p D.length) 9 = 0 ∧ ps_i s0 (stc p D.length) 10 = 0 ∧ ps_i s0 (stc p D.length) 11 = 0) (hD : tq_GD h.1 D) (hT : tq_GT h.1 Θ) (hwt : WFt h) (hG : tp_G h.1 h.2.length st) (hpr : tq_pr Θ D st) (hx1 : x1.toInt = D.length) (k : ∀ (v : Int32) s', (v.toInt = tq_cs h Θ D st ∧ (tq_cs h Θ D st = 0 → cpD s' p (D ++ [tq_res h Θ D st])) ∧ cfr (CTO p D.length) s0 s') → R v s') : ∀ (n : Nat) {s : ps_S} {x4 : Int32} {m : Nat}, x4.toInt = m → m ≤ 3 → (∀ j, j < m → CW s (otc p j) []) → cfr (fun q => p + 404 ≤ q ∧ q ≤ p + 409) s0 s → pl_At n 35 21 [(0, .ref p), (1, .int x1), (2, .ref 870), (3, .ref (stc p D.length)), (4, .int x4)] [] s (ps_rI R)
  | 0, _, _, _, _, _, _, _ => pl_At_0
  | n + 1, s, x4, m, hx, hm, hj, F => by
    have hl := stc_lt hp hi
    obtain ⟨-, -, ⟨-, -, c2, -⟩, ⟨-, l1⟩, -⟩ := prf hp
    have t3 : (nI (ps_ln (ps_c0 p 2))).toInt = 3 := by rw [c2, l1]; decide
    have FT : cfr (CTO p D.length) s0 s := cfr_mono F (fun q z => Or.inr (Or.inl z))
    refine pl_35_21 (pl_nk_i (fun _ => pl_nk_i (fun _ => ⟨fun z => ?_, fun z => ?_⟩)))
    · have z := xle z
      have em : m = 3 := by omega
      subst em
      have X1 : cpX s p th h Θ D st := by
        obtain ⟨⟨x1', x2', x3'⟩, x4', x5', x6', x7'⟩ := X
        have h8 := x1'.2.2.1
        exact ⟨⟨cv_H_cfr x1' F (fun q a b c => by omega), by rw [(F p (by omega)).2.2.1]; exact x2', x3'⟩, cSh_cfr x4' F (fun q a b c => by omega), cpD_cfr x5' F (fun q a b c => by unfold stc at *; omega), cpT_cfr x6' F (fun q a b c => by omega), cv_W_cfr x7' F (by omega) (by omega)⟩
      have f0 := F (stc p D.length) (by omega)
      have B : cpB s p (stc p D.length) := ⟨hj, by rw [f0.1]; exact B0.1, by rw [f0.1]; exact B0.2.1, by rw [f0.1]; exact B0.2.2.1, by rw [f0.1]; exact B0.2.2.2⟩
      refine fs_42 hp hi X1 hD hG B hpr hx1 (fun v1 s1 K => ⟨fun z1 => ?_, fun z1 => ?_⟩)
      · have z1 := xeq z1
        obtain ⟨kv, km, F1⟩ := K
        have hm0 : (tq_mk h Θ D st).1 = 0 := by
          have t0 : (0 : Int32).toInt = 0 := Int32.toInt_zero
          omega
        obtain ⟨m1, ⟨m2, m3, m4⟩, ⟨m5, m6⟩, m7, m8, m9⟩ := km hm0
        refine pl_nk_i (fun _ => ?_)
        have F2 : cfr (fun q => q = stc p D.length) s1 (ps_uj s1 (stc p D.length) 12 ((1 : Int64) <<< (Int32.toInt64 x1 &&& 63))) := cfr_j cfr_refl rfl
        refine fs_35_73 hp hi X hD hG hpr (fun _ => tq_mk_ws hwt hG hpr hD hT hm0) hm0 k n (m := 0) rfl (Nat.zero_le _) ⟨⟨CW_cfr m1 F2 (by omega) (by omega), fun j hj3 => ?_⟩, ⟨m5, m6, ?_⟩, fun e => ?_, fun e => m8 e, m9⟩ (cfr_tr FT (cfr_tr F1 (cfr_mono F2 (fun q z => Or.inl (by omega)))))
        · rcases (show j = 0 ∨ j = 1 ∨ j = 2 by omega) with rfl | rfl | rfl
          · exact CW_cfr m2 F2 (by unfold otc; omega) (by unfold otc; omega)
          · exact CW_cfr m3 F2 (by unfold otc; omega) (by unfold otc; omega)
          · exact CW_cfr m4 F2 (by unfold otc; omega) (by unfold otc; omega)
        · rw [ps_j_uj, if_pos ⟨rfl, rfl⟩, xnI hx1]
          rfl
        · exact m7 e
      · have z1 := xne z1
        obtain ⟨kv, km, F1⟩ := K
        have hm0 : (tq_mk h Θ D st).1 ≠ 0 := fun e => by
          have t0 : (0 : Int32).toInt = 0 := Int32.toInt_zero
          rw [e] at kv
          exact z1 (kv.trans t0.symm)
        have hc := tq_cs_m hpr hm0
        exact k _ _ ⟨by rw [hc]; exact kv, fun e => absurd (hc.symm.trans e) hm0, cfr_tr FT F1⟩
    · have z := xlt z
      refine fs_38 (i := m) hp hx (by omega) (fs_91 ?_)
      refine fs_35_21 hp hi X B0 hD hT hwt hG hpr hx1 k n (xj1 hx (by omega)) (by omega) (fun j hj2 => ?_) (cfr_i (cfr_i F (by unfold otc; omega)) (by unfold otc; omega))
      by_cases e : j = m
      · rw [e]
        exact CW_of CW_0
      · exact CW_cfr (hj j (by omega)) (cfr_i (cfr_i cfr_refl rfl) rfl : cfr (fun q => q = otc p m) _ _) (by unfold otc; omega) (by unfold otc; omega)
theorem fs_35 {n : Nat} {x1 : Int32} (hp : p = 50 ∨ p = 460) (hi : D.length < 40) (X : cpX s0 p th h Θ D st) (B0 : (ps_i s0 (stc p D.length) 8).toInt = 0 ∧ ps_i s0 (stc p D.length) 9 = 0 ∧ ps_i s0 (stc p D.length) 10 = 0 ∧ ps_i s0 (stc p D.length) 11 = 0) (hD : tq_GD h.1 D) (hT : tq_GT h.1 Θ) (hwt : WFt h) (hG : tp_G h.1 h.2.length st) (hx1 : x1.toInt = D.length) (k : ∀ (v : Int32) s', (v.toInt = tq_cs h Θ D st ∧ (tq_cs h Θ D st = 0 → cpD s' p (D ++ [tq_res h Θ D st])) ∧ cfr (CTO p D.length) s0 s') → R v s') : pl_Cl n 35 [.ref p, .int x1, .ref 870] s0 (ps_rI R) := by
  cases n with
  | zero => exact pl_At_0
  | succ n =>
  show pl_At (n + 1) 35 0 [(0, .ref p), (1, .int x1), (2, .ref 870)] [] s0 (ps_rI R)
  refine pl_35_0 (fs_33 hp hx1 hi ?_)
  refine fs_36 hp hi X.2.2.2.1 X.2.1 hG.1 hx1 (fun y => ⟨fun _ => ?_, fun z => absurd z (by decide)⟩) (fun y => ⟨fun z => absurd rfl z, fun _ => ?_⟩)
  · exact fs_35_21 hp hi X B0 hD hT hwt hG y hx1 k n (m := 0) rfl (Nat.zero_le _) (fun j hj => absurd hj (Nat.not_lt_zero _)) cfr_refl
  · have hc := tq_cs_1 (h := h) y
    exact k _ _ ⟨by rw [hc]; rfl, fun e => absurd e (by rw [hc]; decide), cfr_refl⟩
end S35
/-! the steps, one after the other -/
/-- the steps as they were read, not yet taken -/
def cpW (s : ps_S) (p : Nat) (L : List tp_P) (m : Nat) : Prop := ∀ (k : Nat) (st : tp_P), m ≤ k → L[k]? = some st → cpT s (stc p k) st ∧ (ps_i s (stc p k) 8).toInt = 0 ∧ ps_i s (stc p k) 9 = 0 ∧ ps_i s (stc p k) 10 = 0 ∧ ps_i s (stc p k) 11 = 0
/-- a proof as it stands -/
def cpP (s : ps_S) (p : Nat) (D : List tq_R) (c : Nat) : Prop := cpD s p D ∧ (ps_i s p 8).toInt = D.length ∧ (ps_i s p 9).toInt = c
/-- where a proof's own cells lie -/
def CPF (p q : Nat) : Prop := q = p ∨ (p + 14 ≤ q ∧ q ≤ p + 19) ∨ (p + 44 ≤ q ∧ q ≤ p + 409)
section S34
variable {p th : Nat} {h : tx_H} {Θ : List tq_H} {L : List tp_P} {s0 : ps_S} {R : ps_S → Prop}
theorem tq_G_step {D : List tq_R} {st : tp_P} (hD : tq_GD h.1 D) (hT : tq_GT h.1 Θ) (hwt : WFt h) (hG : tp_G h.1 h.2.length st) (hpr : tq_pr Θ D st) (hm : (tq_mk h Θ D st).1 = 0) (hf : tq_fit h (tq_res h Θ D st)) : tq_GD h.1 (D ++ [tq_res h Θ D st]) := fun k R hk => by
  rcases Nat.lt_or_ge k D.length with u | u
  · rw [List.getElem?_append_left u] at hk
    exact hD k R hk
  · have hkl := (List.getElem?_eq_some_iff.mp hk).1
    rw [List.length_append, List.length_singleton] at hkl
    rw [show k = D.length from by omega, List.getElem?_append_right (Nat.le_refl _), Nat.sub_self] at hk
    have e : tq_res h Θ D st = R := Option.some.inj hk
    rw [← e]
    refine ⟨⟨tq_mk_ws hwt hG hpr hD hT hm, hf.1, hf.2.2⟩, hf.2.1, fun y hy => ?_⟩
    have aD : ∀ (j : Nat) (y : List Nat), y ∈ tq_a D j → y ≠ [] ∧ y.length ≤ 40 := fun j y hy => by
      unfold tq_a at hy
      rw [List.getD_eq_getElem?_getD] at hy
      cases e2 : D[j]? with
      | none => rw [e2] at hy; cases hy
      | some q => rw [e2] at hy; exact (hD j q e2).2.2 y hy
    have hy : y ∈ tq_as D st (tq_mk h Θ D st).2.2 := hy
    by_cases e11 : st.1.1 = 11
    · have ea : tq_as D st (tq_mk h Θ D st).2.2 = [st.2.2.2] := by unfold tq_as; rw [if_pos e11]
      rw [ea, List.mem_singleton] at hy
      rw [hy]
      obtain ⟨wf1, wf2⟩ := hG.2.2.1 (Or.inl e11)
      refine ⟨fun z => ?_, wf2⟩
      obtain ⟨c, t, e2⟩ := ws_ne wf1
      rw [z] at e2
      cases e2
    · rw [tq_za_is e11] at hy
      have key : ∀ m, y ∈ tq_za D st (tq_mk h Θ D st).2.2 m → y ≠ [] ∧ y.length ≤ 40 := by
        intro m
        induction m with
        | zero => intro hy; cases hy
        | succ m ih =>
          intro hy
          rcases tq_ga_mem hy with hy | hy
          · exact ih hy
          · exact aD _ y hy
      exact key _ hy
theorem tq_cs_is {D : List tq_R} {st : tp_P} (hc : tq_cs h Θ D st = 0) : tq_pr Θ D st ∧ (tq_mk h Θ D st).1 = 0 ∧ tq_fit h (tq_res h Θ D st) := by
  by_cases hp : tq_pr Θ D st
  · by_cases hm : (tq_mk h Θ D st).1 = 0
    · by_cases hf : tq_fit h (tq_res h Θ D st)
      · exact ⟨hp, hm, hf⟩
      · rw [tq_cs_5 hp hm hf] at hc
        cases hc
    · rw [tq_cs_m hp hm] at hc
      exact absurd hc hm
  · rw [tq_cs_1 hp] at hc
    cases hc
theorem fs_34_7 (hp : p = 50 ∨ p = 460) (hth : th = 2 ∨ th = 26) (hT : tq_GT h.1 Θ) (hwt : WFt h) (hL : L.length ≤ 40) (hG : ∀ (k : Nat) (st : tp_P), L[k]? = some st → tp_G h.1 h.2.length st) (k : ∀ s' D c, tq_run h Θ L [] = (D, c) → tq_GD h.1 D → cpP s' p D c → cfr (CPF p) s0 s' → R s') : ∀ (n : Nat) {s : ps_S} {x3 : Int32} {D : List tq_R}, x3.toInt = D.length → D.length ≤ L.length → tq_run h Θ L [] = tq_run h Θ (L.drop D.length) D → tq_GD h.1 D → cv_H s th h → ps_r s p 6 = th → cSh s 870 Θ → cpD s p D → cv_W s (p + 12) [] → cpW s p L D.length → (ps_i s p 7).toInt = L.length → (ps_i s p 8).toInt = D.length → (L.length = D.length → ps_i s p 9 = 0) → cfr (CPF p) s0 s → pl_At n 34 7 [(0, .ref p), (2, .ref 870), (3, .int x3)] [] s (ps_rV R)
  | 0, _, _, _, _, _, _, _, _, _, _, _, _, _, _, _, _, _ => pl_At_0
  | n + 1, s, x3, D, hx, hDL, hrun, hD, H, h6, hS, cD, W12, cW, e7, e8, e9, F => by
    have h8 := H.2.2.1
    refine pl_34_7 (pl_nk_i (fun _ => ⟨fun z => ?_, fun z => ?_⟩))
    · have z := xle z
      have e : D.length = L.length := by omega
      rw [e, List.drop_length] at hrun
      exact k s D 0 hrun hD ⟨cD, e8, by rw [e9 e.symm]; rfl⟩ F
    · have z := xlt z
      obtain ⟨st, hst⟩ : ∃ st, L[D.length]? = some st := ⟨_, List.getElem?_eq_getElem (by omega)⟩
      have hi : D.length < 40 := by omega
      have hl := stc_lt hp hi
      obtain ⟨w1, w2⟩ := cW D.length st (Nat.le_refl _) hst
      rw [drop_g hst] at hrun
      refine fs_35 hp hi ⟨⟨H, h6, hth⟩, hS, cD, w1, W12⟩ w2 hD hT hwt (hG _ st hst) hx (fun v1 s1 q => ?_)
      obtain ⟨q1, q2, F1⟩ := q
      have F1' : cfr (CPF p) s s1 := cfr_mono F1 (fun q z => by unfold CTO at z; unfold CPF; omega)
      refine pl_nk_i (fun _ => pl_nk_i (fun _ => ⟨fun y => pl_nk_i (fun _ => ?_), fun y => ?_⟩))
      · have y : v1 = 0 := by rw [ps_i_ui, if_pos ⟨rfl, rfl⟩] at y; exact y
        have hc : tq_cs h Θ D st = 0 := by
          rw [y, Int32.toInt_zero] at q1
          omega
        obtain ⟨c1, c2, c3⟩ := tq_cs_is hc
        rw [tq_run_0 hc] at hrun
        have hlen : (D ++ [tq_res h Θ D st]).length = D.length + 1 := List.length_append
        have e31 : (x3 + 1).toInt = (D.length + 1 : Nat) := xj1 hx (by omega)
        have F2 : cfr (fun q => q = p) s1 (ps_ui (ps_ui s1 p 9 v1) p 8 (x3 + 1)) := cfr_i (cfr_i cfr_refl rfl) rfl
        have F12 : cfr (fun q => q = p ∨ CTO p D.length q) s (ps_ui (ps_ui s1 p 9 v1) p 8 (x3 + 1)) := cfr_tr (cfr_mono F1 (fun q z => Or.inr z)) (cfr_mono F2 (fun q z => Or.inl z))
        refine fs_34_7 hp hth hT hwt hL hG k n (D := D ++ [tq_res h Θ D st]) (by rw [hlen]; exact e31) (by omega) (by rw [hlen]; exact hrun) (tq_G_step hD hT hwt (hG _ st hst) c1 c2 c3) (cv_H_cfr H F12 (fun q a b => by unfold CTO; omega)) ?_ (cSh_cfr hS F12 (fun q a b => by unfold CTO; omega)) (cpD_cfr (q2 hc) F2 (fun q a b => by unfold stc at a; omega)) (cv_W_cfr W12 F12 (by unfold CTO; omega) (by unfold CTO; omega)) (fun kk st2 hk hs2 => ?_) ?_ ?_ (fun _ => ?_) (cfr_tr F (cfr_tr F1' (cfr_mono F2 (fun q z => Or.inl z))))
        · show ps_r s1 p 6 = th
          rw [(F1 p (by unfold CTO; omega)).2.2.1]
          exact h6
        · rw [hlen] at hk
          have hkl := (List.getElem?_eq_some_iff.mp hs2).1
          obtain ⟨a1, a2, a3, a4, a5⟩ := cW kk st2 (by omega) hs2
          have hlk := stc_lt hp (i := kk) (by omega)
          have hsk : stc p D.length + 9 ≤ stc p kk := by unfold stc; omega
          have f0 := F12 (stc p kk) (by unfold CTO; omega)
          exact ⟨cpT_cfr a1 F12 (fun q a b => by unfold CTO; omega), by rw [f0.1]; exact a2, by rw [f0.1]; exact a3, by rw [f0.1]; exact a4, by rw [f0.1]; exact a5⟩
        · rw [ps_i_ui, if_neg (by omega), ps_i_ui, if_neg (by omega), (F1 p (by unfold CTO; omega)).1]
          exact e7
        · rw [ps_i_ui, if_pos ⟨rfl, rfl⟩, hlen]
          exact e31
        · rw [ps_i_ui, if_neg (by omega), ps_i_ui, if_pos ⟨rfl, rfl⟩]
          exact y
      · have y : v1 ≠ 0 := by rw [ps_i_ui, if_pos ⟨rfl, rfl⟩] at y; exact y
        have hc : tq_cs h Θ D st ≠ 0 := fun e => y (Int32.toInt_inj.mp (by rw [q1, e]; rfl))
        rw [tq_run_c hc] at hrun
        have F2 : cfr (fun q => q = p) s1 (ps_ui s1 p 9 v1) := cfr_i cfr_refl rfl
        refine k _ D _ hrun hD ⟨cpD_cfr (cpD_cfr cD F1 (fun q a b => by unfold CTO; unfold stc at *; omega)) F2 (fun q a b => by unfold stc at a; omega), ?_, ?_⟩ (cfr_tr F (cfr_tr F1' (cfr_mono F2 (fun q z => Or.inl z))))
        · rw [ps_i_ui, if_neg (by omega), (F1 p (by unfold CTO; omega)).1]
          exact e8
        · rw [ps_i_ui, if_pos ⟨rfl, rfl⟩]
          exact q1
theorem fs_34 {n : Nat} (hp : p = 50 ∨ p = 460) (hth : th = 2 ∨ th = 26) (hT : tq_GT h.1 Θ) (hwt : WFt h) (hL : L.length ≤ 40) (hG : ∀ (k : Nat) (st : tp_P), L[k]? = some st → tp_G h.1 h.2.length st) (H : cv_H s0 th h) (hS : cSh s0 870 Θ) (W12 : cv_W s0 (p + 12) []) (cW : cpW s0 p L 0) (e7 : (ps_i s0 p 7).toInt = L.length) (e8 : (ps_i s0 p 8).toInt = 0) (e9 : ps_i s0 p 9 = 0) (k : ∀ s', (∃ D c, tq_run h Θ L [] = (D, c) ∧ tq_GD h.1 D ∧ cpP s' p D c ∧ cfr (CPF p) s0 s') → R s') : pl_Cl n 34 [.ref p, .ref th, .ref 870] s0 (ps_rV R) := by
  cases n with
  | zero => exact pl_At_0
  | succ n =>
  show pl_At (n + 1) 34 0 [(0, .ref p), (1, .ref th), (2, .ref 870)] [] s0 (ps_rV R)
  have h8 := H.2.2.1
  have F : cfr (fun q => q = p) s0 (ps_ur s0 p 6 th) := cfr_r cfr_refl rfl
  refine pl_34_0 (pl_nk_i (fun _ => ?_))
  refine fs_34_7 (th := th) hp hth hT hwt hL hG (fun s' D c a b d e => k s' ⟨D, c, a, b, d, e⟩) n (D := []) rfl (Nat.zero_le _) rfl (fun k R hk => by cases hk) (cv_H_cfr H F (fun q a b => by omega)) ?_ (cSh_cfr hS F (fun q a b => by omega)) ⟨Nat.zero_le _, fun k R hk => by cases hk⟩ (cv_W_cfr W12 F (by omega) (by omega)) cW e7 e8 (fun _ => e9) (cfr_mono F (fun q z => Or.inl z))
  rw [ps_r_ur, if_pos ⟨rfl, rfl⟩]
end S34
end
section
set_option maxRecDepth 100000
/-! the reference: small methods of proofs; a term put into a row; what is assumed, as it is gathered -/
-- ProofBenchModel.areAlike(II)Z
theorem pl_222_0 {n : Nat} {x1 : Int32} {x2 : Int32} {s : ps_S} {Q : Option Value → ps_S → Prop} (h :
  pl_Cl n 219 [.ref 1131, .int x1] s (ps_rI (fun v1 s1 =>
    pl_Cl n 219 [.ref 1131, .int x2] s1 (ps_rI (fun v2 s2 =>
      (v1 = v2 →
        pl_At n 222 17 [(0, .ref 1131), (1, .int x1), (2, .int x2), (3, .int 0)] [] s2 Q) ∧
      (v1 ≠ v2 →
        Q (some (.int 0)) s2)))))) : pl_At (n + 1) 222 0 [(0, .ref 1131), (1, .int x1), (2, .int x2)] [] s Q :=
  pl_wp_at (stops := [(17, [0, 1, 2, 3])]) (f := 13) h rfl

theorem pl_222_17 {n : Nat} {x1 : Int32} {x2 : Int32} {x3 : Int32} {s : ps_S} {Q : Option Value → ps_S → Prop} (h :
  pl_Cl n 219 [.ref 1131, .int x1] s (ps_rI (fun v1 s1 =>
    (v1 ≤ x3 →
      Q (some (.int 1)) s1) ∧
    (x3 < v1 →
      pl_Cl n 220 [.ref 1131, .int x1, .int x3] s1 (ps_rI (fun v2 s2 =>
        pl_Cl n 220 [.ref 1131, .int x2, .int x3] s2 (ps_rI (fun v3 s3 =>
          (v2 = v3 →
            pl_At n 222 17 [(0, .ref 1131), (1, .int x1), (2, .int x2), (3, .int (x3 + 1))] [] s3 Q) ∧
          (v2 ≠ v3 →
            Q (some (.int 0)) s3))))))))) : pl_At (n + 1) 222 17 [(0, .ref 1131), (1, .int x1), (2, .int x2), (3, .int x3)] [] s Q :=
  pl_wp_at (stops := [(17, [0, 1, 2, 3])]) (f := 22) h rfl

-- ProofBenchModel.isFree(II)Z
theorem pl_223_0 {n : Nat} {x1 : Int32} {x2 : Int32} {s : ps_S} {Q : Option Value → ps_S → Prop} (h :
  pl_At n 223 2 [(0, .ref 1131), (1, .int x1), (2, .int x2), (3, .int 0)] [] s Q) : pl_At (n + 1) 223 0 [(0, .ref 1131), (1, .int x1), (2, .int x2)] [] s Q :=
  pl_wp_at (stops := [(2, [0, 1, 2, 3])]) (f := 4) h rfl

theorem pl_223_2 {n : Nat} {x1 : Int32} {x2 : Int32} {x3 : Int32} {s : ps_S} {Q : Option Value → ps_S → Prop} (h :
  pl_Cl n 219 [.ref 1131, .int x1] s (ps_rI (fun v1 s1 =>
    (v1 ≤ x3 →
      Q (some (.int 0)) s1) ∧
    (x3 < v1 →
      pl_Cl n 220 [.ref 1131, .int x1, .int x3] s1 (ps_rI (fun v2 s2 =>
        (v2 ≠ ((60 : Int32) + x2) →
          pl_At n 223 2 [(0, .ref 1131), (1, .int x1), (2, .int x2), (3, .int (x3 + 1))] [] s2 Q) ∧
        (v2 = ((60 : Int32) + x2) →
          Q (some (.int 1)) s2))))))) : pl_At (n + 1) 223 2 [(0, .ref 1131), (1, .int x1), (2, .int x2), (3, .int x3)] [] s Q :=
  pl_wp_at (stops := [(2, [0, 1, 2, 3])]) (f := 21) h rfl

-- ProofBenchModel.copyRow(II)V
theorem pl_224_0 {n : Nat} {x1 : Int32} {x2 : Int32} {s : ps_S} {Q : Option Value → ps_S → Prop} (h :
  pl_At n 224 2 [(0, .ref 1131), (1, .int x1), (2, .int x2), (3, .int 0)] [] s Q) : pl_At (n + 1) 224 0 [(0, .ref 1131), (1, .int x1), (2, .int x2)] [] s Q :=
  pl_wp_at (stops := [(2, [0, 1, 2, 3])]) (f := 4) h rfl

theorem pl_224_2 {n : Nat} {x1 : Int32} {x2 : Int32} {x3 : Int32} {s : ps_S} {Q : Option Value → ps_S → Prop} (h :
  (pm_in x1 27400 = true →
    ((ps_a s 1134 (Int32.toNatClampNeg x1)) < x3 →
      Q none s) ∧
    (x3 ≤ (ps_a s 1134 (Int32.toNatClampNeg x1)) →
      (pm_in (x1 + x3) 27400 = true →
        (pm_in (x2 + x3) 27400 = true →
          pl_At n 224 2 [(0, .ref 1131), (1, .int x1), (2, .int x2), (3, .int (x3 + 1))] [] (ps_ua s 1134 (Int32.toNatClampNeg (x2 + x3)) (ps_a s 1134 (Int32.toNatClampNeg (x1 + x3)))) Q))))) : pl_At (n + 1) 224 2 [(0, .ref 1131), (1, .int x1), (2, .int x2), (3, .int x3)] [] s Q :=
  pl_wp_at (stops := [(2, [0, 1, 2, 3])]) (f := 23) h rfl

-- ProofBenchModel.makeRow(I)V
theorem pl_227_0 {n : Nat} {x1 : Int32} {s : ps_S} {Q : Option Value → ps_S → Prop} (h :
  pl_Cl n 219 [.ref 1131, .int x1] s (ps_rI (fun v1 s1 =>
    pl_Cl n 226 [.ref 1131, .int x1, .int 0, .int v1] s1 (ps_rV (fun s2 =>
      Q none s2))))) : pl_At (n + 1) 227 0 [(0, .ref 1131), (1, .int x1)] [] s Q :=
  pl_wp_at (stops := []) (f := 10) h rfl

-- ProofBenchModel.isMade(I)Z
theorem pl_230_0 {n : Nat} {x1 : Int32} {s : ps_S} {Q : Option Value → ps_S → Prop} (h :
  pl_Cl n 219 [.ref 1131, .int x1] s (ps_rI (fun v1 s1 =>
    (v1 = (ps_i s1 1131 34) →
      pl_At n 230 16 [(0, .ref 1131), (1, .int x1), (2, .int 0)] [] s1 Q) ∧
    (v1 ≠ (ps_i s1 1131 34) →
      Q (some (.int 0)) s1)))) : pl_At (n + 1) 230 0 [(0, .ref 1131), (1, .int x1)] [] s Q :=
  pl_wp_at (stops := [(16, [0, 1, 2])]) (f := 12) h rfl

theorem pl_230_16 {n : Nat} {x1 : Int32} {x2 : Int32} {s : ps_S} {Q : Option Value → ps_S → Prop} (h :
  ((ps_i s 1131 34) ≤ x2 →
    Q (some (.int 1)) s) ∧
  (x2 < (ps_i s 1131 34) →
    pl_Cl n 220 [.ref 1131, .int x1, .int x2] s (ps_rI (fun v1 s1 =>
      (pm_in x2 260 = true →
        (v1 = (ps_a s1 1149 (Int32.toNatClampNeg x2)) →
          pl_At n 230 16 [(0, .ref 1131), (1, .int x1), (2, .int (x2 + 1))] [] s1 Q) ∧
        (v1 ≠ (ps_a s1 1149 (Int32.toNatClampNeg x2)) →
          Q (some (.int 0)) s1)))))) : pl_At (n + 1) 230 16 [(0, .ref 1131), (1, .int x1), (2, .int x2)] [] s Q :=
  pl_wp_at (stops := [(16, [0, 1, 2])]) (f := 21) h rfl

-- ProofBenchModel.putIn(III)V
theorem pl_231_0 {n : Nat} {x1 : Int32} {x2 : Int32} {x3 : Int32} {s : ps_S} {Q : Option Value → ps_S → Prop} (h :
  pl_At n 231 6 [(0, .ref 1131), (1, .int x1), (2, .int x2), (3, .int x3), (4, .int 0), (5, .int 1)] [] s Q) : pl_At (n + 1) 231 0 [(0, .ref 1131), (1, .int x1), (2, .int x2), (3, .int x3)] [] s Q :=
  pl_wp_at (stops := [(6, [0, 1, 2, 3, 4, 5]), (16, [0, 1, 2, 3, 4, 5]), (41, [0, 1, 2, 3, 4, 5]), (89, [0, 1, 2, 3, 4, 5, 6]), (101, [0, 1, 2, 3, 4, 5])]) (f := 6) h rfl

theorem pl_231_6 {n : Nat} {x1 : Int32} {x2 : Int32} {x3 : Int32} {x4 : Int32} {x5 : Int32} {s : ps_S} {Q : Option Value → ps_S → Prop} (h :
  pl_Cl n 219 [.ref 1131, .int x1] s (ps_rI (fun v1 s1 =>
    (v1 ≤ x5 →
      Q none s1) ∧
    (x5 < v1 →
      pl_At n 231 16 [(0, .ref 1131), (1, .int x1), (2, .int x2), (3, .int x3), (4, .int x4), (5, .int x5)] [] s1 Q)))) : pl_At (n + 1) 231 6 [(0, .ref 1131), (1, .int x1), (2, .int x2), (3, .int x3), (4, .int x4), (5, .int x5)] [] s Q :=
  pl_wp_at (stops := [(6, [0, 1, 2, 3, 4, 5]), (16, [0, 1, 2, 3, 4, 5]), (41, [0, 1, 2, 3, 4, 5]), (89, [0, 1, 2, 3, 4, 5, 6]), (101, [0, 1, 2, 3, 4, 5])]) (f := 8) h rfl

theorem pl_231_16 {n : Nat} {x1 : Int32} {x2 : Int32} {x3 : Int32} {x4 : Int32} {x5 : Int32} {s : ps_S} {Q : Option Value → ps_S → Prop} (h :
  (x4 ≤ 0 →
    pl_At n 231 41 [(0, .ref 1131), (1, .int x1), (2, .int x2), (3, .int x3), (4, .int x4), (5, .int x5)] [] s Q) ∧
  (0 < x4 →
    (pm_in (x4 - 1) 260 = true →
      (x5 < (ps_a s 1150 (Int32.toNatClampNeg (x4 - 1))) →
        pl_At n 231 41 [(0, .ref 1131), (1, .int x1), (2, .int x2), (3, .int x3), (4, .int x4), (5, .int x5)] [] s Q) ∧
      ((ps_a s 1150 (Int32.toNatClampNeg (x4 - 1))) ≤ x5 →
        pl_At n 231 16 [(0, .ref 1131), (1, .int x1), (2, .int x2), (3, .int x3), (4, .int (x4 + (Int32.ofInt (-1)))), (5, .int x5)] [] s Q)))) : pl_At (n + 1) 231 16 [(0, .ref 1131), (1, .int x1), (2, .int x2), (3, .int x3), (4, .int x4), (5, .int x5)] [] s Q :=
  pl_wp_at (stops := [(6, [0, 1, 2, 3, 4, 5]), (16, [0, 1, 2, 3, 4, 5]), (41, [0, 1, 2, 3, 4, 5]), (89, [0, 1, 2, 3, 4, 5, 6]), (101, [0, 1, 2, 3, 4, 5])]) (f := 14) h rfl

theorem pl_231_41 {n : Nat} {x1 : Int32} {x2 : Int32} {x3 : Int32} {x4 : Int32} {x5 : Int32} {s : ps_S} {Q : Option Value → ps_S → Prop} (h :
  pl_Cl n 220 [.ref 1131, .int x1, .int x5] s (ps_rI (fun v1 s1 =>
    (v1 ≠ ((40 : Int32) + x4) →
      pl_Cl n 225 [.ref 1131, .int v1] s1 (ps_rV (fun s2 =>
        pl_At n 231 89 [(0, .ref 1131), (1, .int x1), (2, .int x2), (3, .int x3), (4, .int x4), (5, .int x5), (6, .int v1)] [] s2 Q))) ∧
    (v1 = ((40 : Int32) + x4) →
      (x2 < 0 →
        pl_Cl n 225 [.ref 1131, .int ((60 : Int32) + x3)] s1 (ps_rV (fun s3 =>
          pl_At n 231 89 [(0, .ref 1131), (1, .int x1), (2, .int x2), (3, .int x3), (4, .int x4), (5, .int x5), (6, .int v1)] [] s3 Q))) ∧
      (0 ≤ x2 →
        pl_Cl n 227 [.ref 1131, .int x2] s1 (ps_rV (fun s4 =>
          pl_At n 231 89 [(0, .ref 1131), (1, .int x1), (2, .int x2), (3, .int x3), (4, .int x4), (5, .int x5), (6, .int v1)] [] s4 Q))))))) : pl_At (n + 1) 231 41 [(0, .ref 1131), (1, .int x1), (2, .int x2), (3, .int x3), (4, .int x4), (5, .int x5)] [] s Q :=
  pl_wp_at (stops := [(6, [0, 1, 2, 3, 4, 5]), (16, [0, 1, 2, 3, 4, 5]), (41, [0, 1, 2, 3, 4, 5]), (89, [0, 1, 2, 3, 4, 5, 6]), (101, [0, 1, 2, 3, 4, 5])]) (f := 27) h rfl

theorem pl_231_89 {n : Nat} {x1 : Int32} {x2 : Int32} {x3 : Int32} {x4 : Int32} {x5 : Int32} {x6 : Int32} {s : ps_S} {Q : Option Value → ps_S → Prop} (h :
  (x6 = 4 →
    pl_At n 231 101 [(0, .ref 1131), (1, .int x1), (2, .int x2), (3, .int x3), (4, .int x4), (5, .int x5)] [] s Q) ∧
  (x6 ≠ 4 →
    (x6 ≠ 5 →
      pl_At n 231 6 [(0, .ref 1131), (1, .int x1), (2, .int x2), (3, .int x3), (4, .int x4), (5, .int (x5 + 1))] [] s Q) ∧
    (x6 = 5 →
      pl_At n 231 101 [(0, .ref 1131), (1, .int x1), (2, .int x2), (3, .int x3), (4, .int x4), (5, .int x5)] [] s Q))) : pl_At (n + 1) 231 89 [(0, .ref 1131), (1, .int x1), (2, .int x2), (3, .int x3), (4, .int x4), (5, .int x5), (6, .int x6)] [] s Q :=
  pl_wp_at (stops := [(6, [0, 1, 2, 3, 4, 5]), (16, [0, 1, 2, 3, 4, 5]), (41, [0, 1, 2, 3, 4, 5]), (89, [0, 1, 2, 3, 4, 5, 6]), (101, [0, 1, 2, 3, 4, 5])]) (f := 10) h rfl

theorem pl_231_101 {n : Nat} {x1 : Int32} {x2 : Int32} {x3 : Int32} {x4 : Int32} {x5 : Int32} {s : ps_S} {Q : Option Value → ps_S → Prop} (h :
  pl_Cl n 221 [.ref 1131, .int x1, .int x5] s (ps_rI (fun v1 s1 =>
    (pm_in x4 260 = true →
      pl_At n 231 6 [(0, .ref 1131), (1, .int x1), (2, .int x2), (3, .int x3), (4, .int (x4 + 1)), (5, .int (x5 + 1))] [] (ps_ua s1 1150 (Int32.toNatClampNeg x4) v1) Q)))) : pl_At (n + 1) 231 101 [(0, .ref 1131), (1, .int x1), (2, .int x2), (3, .int x3), (4, .int x4), (5, .int x5)] [] s Q :=
  pl_wp_at (stops := [(6, [0, 1, 2, 3, 4, 5]), (16, [0, 1, 2, 3, 4, 5]), (41, [0, 1, 2, 3, 4, 5]), (89, [0, 1, 2, 3, 4, 5, 6]), (101, [0, 1, 2, 3, 4, 5])]) (f := 13) h rfl

-- ProofBenchModel.makeGeneral(II)V
theorem pl_232_0 {n : Nat} {x1 : Int32} {x2 : Int32} {s : ps_S} {Q : Option Value → ps_S → Prop} (h :
  pl_Cl n 225 [.ref 1131, .int 4] s (ps_rV (fun s1 =>
    pl_At n 232 10 [(0, .ref 1131), (1, .int x1), (2, .int x2), (3, .int 0), (4, .int 0)] [] s1 Q))) : pl_At (n + 1) 232 0 [(0, .ref 1131), (1, .int x1), (2, .int x2)] [] s Q :=
  pl_wp_at (stops := [(10, [0, 1, 2, 3, 4]), (20, [0, 1, 2, 3, 4]), (43, [0, 1, 2, 3, 4]), (86, [0, 1, 2, 3, 4])]) (f := 9) h rfl

theorem pl_232_10 {n : Nat} {x1 : Int32} {x2 : Int32} {x3 : Int32} {x4 : Int32} {s : ps_S} {Q : Option Value → ps_S → Prop} (h :
  pl_Cl n 219 [.ref 1131, .int x1] s (ps_rI (fun v1 s1 =>
    (v1 ≤ x4 →
      Q none s1) ∧
    (x4 < v1 →
      pl_At n 232 20 [(0, .ref 1131), (1, .int x1), (2, .int x2), (3, .int x3), (4, .int x4)] [] s1 Q)))) : pl_At (n + 1) 232 10 [(0, .ref 1131), (1, .int x1), (2, .int x2), (3, .int x3), (4, .int x4)] [] s Q :=
  pl_wp_at (stops := [(10, [0, 1, 2, 3, 4]), (20, [0, 1, 2, 3, 4]), (43, [0, 1, 2, 3, 4]), (86, [0, 1, 2, 3, 4])]) (f := 8) h rfl

theorem pl_232_20 {n : Nat} {x1 : Int32} {x2 : Int32} {x3 : Int32} {x4 : Int32} {s : ps_S} {Q : Option Value → ps_S → Prop} (h :
  (x3 ≤ 0 →
    pl_At n 232 43 [(0, .ref 1131), (1, .int x1), (2, .int x2), (3, .int x3), (4, .int x4)] [] s Q) ∧
  (0 < x3 →
    (pm_in (x3 - 1) 260 = true →
      (x4 < (ps_a s 1150 (Int32.toNatClampNeg (x3 - 1))) →
        pl_At n 232 43 [(0, .ref 1131), (1, .int x1), (2, .int x2), (3, .int x3), (4, .int x4)] [] s Q) ∧
      ((ps_a s 1150 (Int32.toNatClampNeg (x3 - 1))) ≤ x4 →
        pl_At n 232 20 [(0, .ref 1131), (1, .int x1), (2, .int x2), (3, .int (x3 + (Int32.ofInt (-1)))), (4, .int x4)] [] s Q)))) : pl_At (n + 1) 232 20 [(0, .ref 1131), (1, .int x1), (2, .int x2), (3, .int x3), (4, .int x4)] [] s Q :=
  pl_wp_at (stops := [(10, [0, 1, 2, 3, 4]), (20, [0, 1, 2, 3, 4]), (43, [0, 1, 2, 3, 4]), (86, [0, 1, 2, 3, 4])]) (f := 14) h rfl

theorem pl_232_43 {n : Nat} {x1 : Int32} {x2 : Int32} {x3 : Int32} {x4 : Int32} {s : ps_S} {Q : Option Value → ps_S → Prop} (h :
  pl_Cl n 220 [.ref 1131, .int x1, .int x4] s (ps_rI (fun v1 s1 =>
    (v1 ≠ ((60 : Int32) + x2) →
      pl_Cl n 225 [.ref 1131, .int v1] s1 (ps_rV (fun s2 =>
        (v1 = 4 →
          pl_At n 232 86 [(0, .ref 1131), (1, .int x1), (2, .int x2), (3, .int x3), (4, .int x4)] [] s2 Q) ∧
        (v1 ≠ 4 →
          (v1 ≠ 5 →
            pl_At n 232 10 [(0, .ref 1131), (1, .int x1), (2, .int x2), (3, .int x3), (4, .int (x4 + 1))] [] s2 Q) ∧
          (v1 = 5 →
            pl_At n 232 86 [(0, .ref 1131), (1, .int x1), (2, .int x2), (3, .int x3), (4, .int x4)] [] s2 Q))))) ∧
    (v1 = ((60 : Int32) + x2) →
      pl_Cl n 225 [.ref 1131, .int ((40 : Int32) + x3)] s1 (ps_rV (fun s3 =>
        (v1 = 4 →
          pl_At n 232 86 [(0, .ref 1131), (1, .int x1), (2, .int x2), (3, .int x3), (4, .int x4)] [] s3 Q) ∧
        (v1 ≠ 4 →
          (v1 ≠ 5 →
            pl_At n 232 10 [(0, .ref 1131), (1, .int x1), (2, .int x2), (3, .int x3), (4, .int (x4 + 1))] [] s3 Q) ∧
          (v1 = 5 →
            pl_At n 232 86 [(0, .ref 1131), (1, .int x1), (2, .int x2), (3, .int x3), (4, .int x4)] [] s3 Q)))))))) : pl_At (n + 1) 232 43 [(0, .ref 1131), (1, .int x1), (2, .int x2), (3, .int x3), (4, .int x4)] [] s Q :=
  pl_wp_at (stops := [(10, [0, 1, 2, 3, 4]), (20, [0, 1, 2, 3, 4]), (43, [0, 1, 2, 3, 4]), (86, [0, 1, 2, 3, 4])]) (f := 36) h rfl

theorem pl_232_86 {n : Nat} {x1 : Int32} {x2 : Int32} {x3 : Int32} {x4 : Int32} {s : ps_S} {Q : Option Value → ps_S → Prop} (h :
  pl_Cl n 221 [.ref 1131, .int x1, .int x4] s (ps_rI (fun v1 s1 =>
    (pm_in x3 260 = true →
      pl_At n 232 10 [(0, .ref 1131), (1, .int x1), (2, .int x2), (3, .int (x3 + 1)), (4, .int (x4 + 1))] [] (ps_ua s1 1150 (Int32.toNatClampNeg x3) v1) Q)))) : pl_At (n + 1) 232 86 [(0, .ref 1131), (1, .int x1), (2, .int x2), (3, .int x3), (4, .int x4)] [] s Q :=
  pl_wp_at (stops := [(10, [0, 1, 2, 3, 4]), (20, [0, 1, 2, 3, 4]), (43, [0, 1, 2, 3, 4]), (86, [0, 1, 2, 3, 4])]) (f := 13) h rfl

-- ProofBenchModel.because(I)V
theorem pl_241_0 {n : Nat} {x1 : Int32} {s : ps_S} {Q : Option Value → ps_S → Prop} (h :
  ((ps_i s 1131 50) = 0 →
    Q none (ps_ui s 1131 50 x1)) ∧
  ((ps_i s 1131 50) ≠ 0 →
    ((ps_i s 1131 50) ≤ x1 →
      Q none s) ∧
    (x1 < (ps_i s 1131 50) →
      Q none (ps_ui s 1131 50 x1)))) : pl_At (n + 1) 241 0 [(0, .ref 1131), (1, .int x1)] [] s Q :=
  pl_wp_at (stops := []) (f := 18) h rfl

-- ProofBenchModel.stepRow(I)I
theorem pl_242_0 {n : Nat} {x0 : Int32} {s : ps_S} {Q : Option Value → ps_S → Prop} (h :
  Q (some (.int ((0 : Int32) + ((41 : Int32) * x0)))) s) : pl_At (n + 1) 242 0 [(0, .int x0)] [] s Q :=
  pl_wp_at (stops := []) (f := 8) h rfl

-- ProofBenchModel.assumedRow(II)I
theorem pl_243_0 {n : Nat} {x0 : Int32} {x1 : Int32} {s : ps_S} {Q : Option Value → ps_S → Prop} (h :
  Q (some (.int ((1640 : Int32) + ((41 : Int32) * (((12 : Int32) * x0) + x1))))) s) : pl_At (n + 1) 243 0 [(0, .int x0), (1, .int x1)] [] s Q :=
  pl_wp_at (stops := []) (f := 12) h rfl

-- ProofBenchModel.first(I)I
theorem pl_244_0 {n : Nat} {x1 : Int32} {s : ps_S} {Q : Option Value → ps_S → Prop} (h :
  (pm_in x1 40 = true →
    pl_Cl n 242 [.int (ps_a s 1153 (Int32.toNatClampNeg x1))] s (ps_rI (fun v1 s1 =>
      Q (some (.int v1)) s1)))) : pl_At (n + 1) 244 0 [(0, .ref 1131), (1, .int x1)] [] s Q :=
  pl_wp_at (stops := []) (f := 8) h rfl

-- ProofBenchModel.second(I)I
theorem pl_245_0 {n : Nat} {x1 : Int32} {s : ps_S} {Q : Option Value → ps_S → Prop} (h :
  (pm_in x1 40 = true →
    pl_Cl n 242 [.int (ps_a s 1154 (Int32.toNatClampNeg x1))] s (ps_rI (fun v1 s1 =>
      Q (some (.int v1)) s1)))) : pl_At (n + 1) 245 0 [(0, .ref 1131), (1, .int x1)] [] s Q :=
  pl_wp_at (stops := []) (f := 8) h rfl

-- ProofBenchModel.third(I)I
theorem pl_246_0 {n : Nat} {x1 : Int32} {s : ps_S} {Q : Option Value → ps_S → Prop} (h :
  (pm_in x1 40 = true →
    pl_Cl n 242 [.int (ps_a s 1155 (Int32.toNatClampNeg x1))] s (ps_rI (fun v1 s1 =>
      Q (some (.int v1)) s1)))) : pl_At (n + 1) 246 0 [(0, .ref 1131), (1, .int x1)] [] s Q :=
  pl_wp_at (stops := []) (f := 8) h rfl

-- ProofBenchModel.headOf(I)I
theorem pl_247_0 {n : Nat} {x1 : Int32} {s : ps_S} {Q : Option Value → ps_S → Prop} (h :
  pl_Cl n 220 [.ref 1131, .int x1, .int 0] s (ps_rI (fun v1 s1 =>
    Q (some (.int v1)) s1))) : pl_At (n + 1) 247 0 [(0, .ref 1131), (1, .int x1)] [] s Q :=
  pl_wp_at (stops := []) (f := 7) h rfl

-- ProofBenchModel.assumeRow(II)V
theorem pl_248_0 {n : Nat} {x1 : Int32} {x2 : Int32} {s : ps_S} {Q : Option Value → ps_S → Prop} (h :
  pl_At n 248 2 [(0, .ref 1131), (1, .int x1), (2, .int x2), (3, .int 0)] [] s Q) : pl_At (n + 1) 248 0 [(0, .ref 1131), (1, .int x1), (2, .int x2)] [] s Q :=
  pl_wp_at (stops := [(2, [0, 1, 2, 3]), (36, [0, 1, 2])]) (f := 4) h rfl

theorem pl_248_2 {n : Nat} {x1 : Int32} {x2 : Int32} {x3 : Int32} {s : ps_S} {Q : Option Value → ps_S → Prop} (h :
  ((ps_i s 1131 51) ≤ x3 →
    pl_At n 248 36 [(0, .ref 1131), (1, .int x1), (2, .int x2)] [] s Q) ∧
  (x3 < (ps_i s 1131 51) →
    (12 ≤ x3 →
      pl_At n 248 36 [(0, .ref 1131), (1, .int x1), (2, .int x2)] [] s Q) ∧
    (x3 < 12 →
      pl_Cl n 243 [.int x1, .int x3] s (ps_rI (fun v1 s1 =>
        pl_Cl n 222 [.ref 1131, .int v1, .int x2] s1 (ps_rI (fun v2 s2 =>
          (v2 = 0 →
            pl_At n 248 2 [(0, .ref 1131), (1, .int x1), (2, .int x2), (3, .int (x3 + 1))] [] s2 Q) ∧
          (v2 ≠ 0 →
            Q none s2)))))))) : pl_At (n + 1) 248 2 [(0, .ref 1131), (1, .int x1), (2, .int x2), (3, .int x3)] [] s Q :=
  pl_wp_at (stops := [(2, [0, 1, 2, 3]), (36, [0, 1, 2])]) (f := 19) h rfl

theorem pl_248_36 {n : Nat} {x1 : Int32} {x2 : Int32} {s : ps_S} {Q : Option Value → ps_S → Prop} (h :
  (12 ≤ (ps_i s 1131 51) →
    Q none (ps_ui s 1131 51 ((ps_i s 1131 51) + 1))) ∧
  ((ps_i s 1131 51) < 12 →
    pl_Cl n 243 [.int x1, .int (ps_i s 1131 51)] s (ps_rI (fun v1 s1 =>
      pl_Cl n 224 [.ref 1131, .int x2, .int v1] s1 (ps_rV (fun s2 =>
        Q none (ps_ui s2 1131 51 ((ps_i s2 1131 51) + 1)))))))) : pl_At (n + 1) 248 36 [(0, .ref 1131), (1, .int x1), (2, .int x2)] [] s Q :=
  pl_wp_at (stops := [(2, [0, 1, 2, 3]), (36, [0, 1, 2])]) (f := 27) h rfl

-- ProofBenchModel.assumeFrom(IIZ)V
theorem pl_249_0 {n : Nat} {x1 : Int32} {x2 : Int32} {x3 : Int32} {s : ps_S} {Q : Option Value → ps_S → Prop} (h :
  pl_At n 249 3 [(0, .ref 1131), (1, .int x1), (2, .int x2), (3, .int x3), (4, .int 0)] [] s Q) : pl_At (n + 1) 249 0 [(0, .ref 1131), (1, .int x1), (2, .int x2), (3, .int x3)] [] s Q :=
  pl_wp_at (stops := [(3, [0, 1, 2, 3, 4]), (31, [0, 1, 2, 3, 4])]) (f := 4) h rfl

theorem pl_249_3 {n : Nat} {x1 : Int32} {x2 : Int32} {x3 : Int32} {x4 : Int32} {s : ps_S} {Q : Option Value → ps_S → Prop} (h :
  (pm_in x2 41 = true →
    ((ps_a s 1157 (Int32.toNatClampNeg x2)) ≤ x4 →
      Q none s) ∧
    (x4 < (ps_a s 1157 (Int32.toNatClampNeg x2)) →
      (x3 = 0 →
        pl_At n 249 31 [(0, .ref 1131), (1, .int x1), (2, .int x2), (3, .int x3), (4, .int x4)] [] s Q) ∧
      (x3 ≠ 0 →
        pl_Cl n 243 [.int x2, .int x4] s (ps_rI (fun v1 s1 =>
          pl_Cl n 230 [.ref 1131, .int v1] s1 (ps_rI (fun v2 s2 =>
            (v2 ≠ 0 →
              pl_At n 249 3 [(0, .ref 1131), (1, .int x1), (2, .int x2), (3, .int x3), (4, .int (x4 + 1))] [] s2 Q) ∧
            (v2 = 0 →
              pl_At n 249 31 [(0, .ref 1131), (1, .int x1), (2, .int x2), (3, .int x3), (4, .int x4)] [] s2 Q))))))))) : pl_At (n + 1) 249 3 [(0, .ref 1131), (1, .int x1), (2, .int x2), (3, .int x3), (4, .int x4)] [] s Q :=
  pl_wp_at (stops := [(3, [0, 1, 2, 3, 4]), (31, [0, 1, 2, 3, 4])]) (f := 19) h rfl

theorem pl_249_31 {n : Nat} {x1 : Int32} {x2 : Int32} {x3 : Int32} {x4 : Int32} {s : ps_S} {Q : Option Value → ps_S → Prop} (h :
  pl_Cl n 243 [.int x2, .int x4] s (ps_rI (fun v1 s1 =>
    pl_Cl n 248 [.ref 1131, .int x1, .int v1] s1 (ps_rV (fun s2 =>
      pl_At n 249 3 [(0, .ref 1131), (1, .int x1), (2, .int x2), (3, .int x3), (4, .int (x4 + 1))] [] s2 Q))))) : pl_At (n + 1) 249 31 [(0, .ref 1131), (1, .int x1), (2, .int x2), (3, .int x3), (4, .int x4)] [] s Q :=
  pl_wp_at (stops := [(3, [0, 1, 2, 3, 4]), (31, [0, 1, 2, 3, 4])]) (f := 10) h rfl

theorem fm_222_17 {ta tb : Nat} {la lb : List Nat} {x1 x2 : Int32} {s : ps_S} {R : Int32 → ps_S → Prop} (h1 : x1.toInt = ta) (hta : ta < 27400) (Wa : mv_W s ta la) (h2 : x2.toInt = tb) (htb : tb < 27400) (Wb : mv_W s tb lb) (hl : la.length = lb.length) (k1 : la = lb → R 1 s) (k0 : ¬ la = lb → R 0 s) : ∀ (n : Nat) {x3 : Int32} {i : Nat}, x3.toInt = i → i ≤ la.length → (∀ j, j < i → la[j]? = lb[j]?) → pl_At n 222 17 [(0, .ref 1131), (1, .int x1), (2, .int x2), (3, .int x3)] [] s (ps_rI R)
  | 0, _, _, _, _, _ => pl_At_0
  | n + 1, x3, i, hx, hi, hj => by
    have h40 := Wa.2.1
    refine pl_222_17 (fm_219c h1 Wa (fun v1 q1 => ⟨fun z => k1 ?_, fun z => ?_⟩))
    · have z := xle z
      refine List.ext_getElem? (fun j => ?_)
      rcases Nat.lt_or_ge j i with y | y
      · exact hj j y
      · rw [List.getElem?_eq_none (by omega), List.getElem?_eq_none (by omega)]
    · have z := xlt z
      obtain ⟨c, hc⟩ : ∃ c, la[i]? = some c := ⟨_, List.getElem?_eq_getElem (by omega)⟩
      obtain ⟨d, hd⟩ : ∃ d, lb[i]? = some d := ⟨_, List.getElem?_eq_getElem (by omega)⟩
      refine fm_220c h1 hta Wa hx hc (fun v2 q2 => fm_220c h2 htb Wb hx hd (fun v3 q3 => ⟨fun y => ?_, fun y => k0 (fun e => ?_)⟩))
      · have y := xeq y
        refine fm_222_17 h1 hta Wa h2 htb Wb hl k1 k0 n (xj1 hx (by omega)) (by omega) (fun j hj2 => ?_)
        rcases Nat.lt_or_ge j i with w | w
        · exact hj j w
        · rw [show j = i from by omega, hc, hd, show c = d from by omega]
      · have y := xne y
        rw [e, hd] at hc
        cases hc
        exact y (by rw [q2, q3])
theorem fm_222 {n ta tb : Nat} {la lb : List Nat} {x1 x2 : Int32} {s : ps_S} {R : Int32 → ps_S → Prop} (h1 : x1.toInt = ta) (hta : ta < 27400) (Wa : mv_W s ta la) (h2 : x2.toInt = tb) (htb : tb < 27400) (Wb : mv_W s tb lb) (k1 : la = lb → R 1 s) (k0 : ¬ la = lb → R 0 s) : pl_Cl n 222 [.ref 1131, .int x1, .int x2] s (ps_rI R) := by
  cases n with
  | zero => exact pl_At_0
  | succ n =>
  show pl_At (n + 1) 222 0 [(0, .ref 1131), (1, .int x1), (2, .int x2)] [] s (ps_rI R)
  refine pl_222_0 (fm_219c h1 Wa (fun v1 q1 => fm_219c h2 Wb (fun v2 q2 => ⟨fun z => ?_, fun z => k0 (fun e => ?_)⟩)))
  · have z := xeq z
    exact fm_222_17 h1 hta Wa h2 htb Wb (by omega) k1 k0 n (i := 0) rfl (Nat.zero_le _) (fun j hj => absurd hj (Nat.not_lt_zero _))
  · have z := xne z
    rw [e] at q1
    exact z (q1.trans q2.symm)
theorem fm_223c_2 {to x : Nat} {l : List Nat} {x1 x2 : Int32} {s : ps_S} {R : Int32 → ps_S → Prop} (h1 : x1.toInt = to) (hto : to < 27400) (W : mv_W s to l) (h2 : x2.toInt = x) (hx : x < 1000) (k1 : l.contains (60 + x) = true → R 1 s) (k0 : ¬ l.contains (60 + x) = true → R 0 s) : ∀ (n : Nat) {x3 : Int32} {i : Nat}, x3.toInt = i → (∀ j, j < i → l[j]? ≠ some (60 + x)) → pl_At n 223 2 [(0, .ref 1131), (1, .int x1), (2, .int x2), (3, .int x3)] [] s (ps_rI R)
  | 0, _, _, _, _ => pl_At_0
  | n + 1, x3, i, h3, hj => by
    have h40 := W.2.1
    have c60 : (60 : Int32).toInt = 60 := by decide
    have e60 : ((60 : Int32) + x2).toInt = (60 + x : Nat) := by rw [xIa (by omega) (by omega), c60, h2]; omega
    refine pl_223_2 (fm_219c h1 W (fun v1 q1 => ⟨fun z => k0 (fun y => ?_), fun z => ?_⟩))
    · have z := xle z
      obtain ⟨j, hj2⟩ := List.mem_iff_getElem?.mp (List.contains_iff_mem.mp y)
      have := (List.getElem?_eq_some_iff.mp hj2).1
      exact hj j (by omega) hj2
    · have z := xlt z
      obtain ⟨d, hd⟩ : ∃ d, l[i]? = some d := ⟨_, List.getElem?_eq_getElem (by omega)⟩
      refine fm_220c h1 hto W h3 hd (fun v2 q2 => ⟨fun y => ?_, fun y => k1 ?_⟩)
      · have y := xne y
        refine fm_223c_2 h1 hto W h2 hx k1 k0 n (xj1 h3 (by omega)) (fun j hj2 => ?_)
        rcases Nat.lt_or_ge j i with w | w
        · exact hj j w
        · rw [show j = i from by omega, hd]
          intro e
          cases e
          exact y (by rw [q2, e60])
      · have y := xeq y
        have e : d = 60 + x := by omega
        subst e
        exact List.contains_iff_mem.mpr (List.mem_of_getElem? hd)
theorem fm_223c {n to x : Nat} {l : List Nat} {x1 x2 : Int32} {s : ps_S} {R : Int32 → ps_S → Prop} (h1 : x1.toInt = to) (hto : to < 27400) (W : mv_W s to l) (h2 : x2.toInt = x) (hx : x < 1000) (k1 : l.contains (60 + x) = true → R 1 s) (k0 : ¬ l.contains (60 + x) = true → R 0 s) : pl_Cl n 223 [.ref 1131, .int x1, .int x2] s (ps_rI R) := by
  cases n with
  | zero => exact pl_At_0
  | succ n =>
  show pl_At (n + 1) 223 0 [(0, .ref 1131), (1, .int x1), (2, .int x2)] [] s (ps_rI R)
  exact pl_223_0 (fm_223c_2 h1 hto W h2 hx k1 k0 n (i := 0) rfl (fun j hj => absurd hj (Nat.not_lt_zero _)))
/-- a row copied -/
theorem fm_224_2 {ta tb : Nat} {l : List Nat} {x1 x2 : Int32} {s0 : ps_S} {R : ps_S → Prop} (h1 : x1.toInt = ta) (h2 : x2.toInt = tb) (hta : ta + 41 ≤ 27400) (htb : tb + 41 ≤ 27400) (hd : ta + 41 ≤ tb ∨ tb + 41 ≤ ta) (W0 : mv_W s0 ta l) (k : ∀ s', mv_W s' tb l → kq [1134] [] s0 s' → mv_po tb s0 s' → R s') : ∀ (n : Nat) {s : ps_S} {x3 : Int32} {i : Nat}, x3.toInt = i → i ≤ l.length + 1 → (∀ j, j < i → ps_a s 1134 (tb + j) = ps_a s0 1134 (ta + j)) → kq [1134] [] s0 s → mv_po tb s0 s → pl_At n 224 2 [(0, .ref 1131), (1, .int x1), (2, .int x2), (3, .int x3)] [] s (ps_rV R)
  | 0, _, _, _, _, _, _, _, _ => pl_At_0
  | n + 1, s, x3, i, h3, hi, hj, K, P => by
    have h40 := W0.2.1
    have es : (ps_a s 1134 ta).toInt = l.length := by rw [P ta (by omega)]; exact W0.1
    refine pl_224_2 ?_
    rw [xtn h1]
    intro b1
    refine ⟨fun z => ?_, fun z => ?_⟩
    · have z := xlt z
      have ei : i = l.length + 1 := by omega
      refine k s ⟨?_, h40, fun j c hc => ?_⟩ K P
      · have := hj 0 (by omega)
        rw [Nat.add_zero, Nat.add_zero] at this
        rw [this]
        exact W0.1
      · have hjl := (List.getElem?_eq_some_iff.mp hc).1
        rw [Nat.add_assoc, hj (1 + j) (by omega), ← Nat.add_assoc]
        exact W0.2.2 j c hc
    · have z := xle z
      have e1 : (x1 + x3).toInt = (ta + i : Nat) := by rw [xIa (by omega) (by omega), h1, h3]; omega
      have e2 : (x2 + x3).toInt = (tb + i : Nat) := by rw [xIa (by omega) (by omega), h2, h3]; omega
      intro b2 b3
      rw [xtn e1, xtn e2]
      refine fm_224_2 h1 h2 hta htb hd W0 k n (xj1 h3 (by omega)) (by omega) (fun j hj2 => ?_) (kqa K rfl) (fun q hq => ?_)
      · rw [ps_a_ua]
        by_cases e : j = i
        · rw [e, if_pos ⟨rfl, rfl⟩]
          exact P (ta + i) (by omega)
        · rw [if_neg (by omega)]
          exact hj j (by omega)
      · rw [ps_a_ua, if_neg (by omega)]
        exact P q hq
theorem fm_224 {n ta tb : Nat} {l : List Nat} {x1 x2 : Int32} {s : ps_S} {R : ps_S → Prop} (h1 : x1.toInt = ta) (h2 : x2.toInt = tb) (hta : ta + 41 ≤ 27400) (htb : tb + 41 ≤ 27400) (hd : ta + 41 ≤ tb ∨ tb + 41 ≤ ta) (W : mv_W s ta l) (k : ∀ s', mv_W s' tb l → kq [1134] [] s s' → mv_po tb s s' → R s') : pl_Cl n 224 [.ref 1131, .int x1, .int x2] s (ps_rV R) := by
  cases n with
  | zero => exact pl_At_0
  | succ n =>
  show pl_At (n + 1) 224 0 [(0, .ref 1131), (1, .int x1), (2, .int x2)] [] s (ps_rV R)
  exact pl_224_0 (fm_224_2 h1 h2 hta htb hd W k n (i := 0) rfl (Nat.zero_le _) (fun j hj => absurd hj (Nat.not_lt_zero _)) kq_refl (fun _ _ => rfl))
theorem fm_227 {n to : Nat} {l L : List Nat} {x1 : Int32} {s : ps_S} {R : ps_S → Prop} (h1 : x1.toInt = to) (hto : to < 27400) (W : mv_W s to l) (M : mk_M s L) (hL : L.length < 50000) (k : ∀ s', mk_M s' (L ++ l) → kq [1149] [34] s s' → R s') : pl_Cl n 227 [.ref 1131, .int x1] s (ps_rV R) := by
  cases n with
  | zero => exact pl_At_0
  | succ n =>
  show pl_At (n + 1) 227 0 [(0, .ref 1131), (1, .int x1)] [] s (ps_rV R)
  refine pl_227_0 (fm_219c h1 W (fun v1 q1 => ?_))
  refine fm_226 (a := 0) (b := l.length) h1 hto W M rfl q1 (Nat.le_refl _) hL (fun s2 M2 K2 => k s2 ?_ K2)
  rw [List.drop_zero, Nat.sub_zero, List.take_length] at M2
  exact M2
theorem fm_230_16 {to : Nat} {l L : List Nat} {x1 : Int32} {s : ps_S} {R : Int32 → ps_S → Prop} (h1 : x1.toInt = to) (hto : to < 27400) (W : mv_W s to l) (M : mk_M s L) (hl : l.length = L.length) (k1 : l = L → R 1 s) (k0 : ¬ l = L → R 0 s) : ∀ (n : Nat) {x2 : Int32} {i : Nat}, x2.toInt = i → i ≤ l.length → (∀ j, j < i → l[j]? = L[j]?) → pl_At n 230 16 [(0, .ref 1131), (1, .int x1), (2, .int x2)] [] s (ps_rI R)
  | 0, _, _, _, _, _ => pl_At_0
  | n + 1, x2, i, hx, hi, hj => by
    have h40 := W.2.1
    have m1 := M.1
    refine pl_230_16 ⟨fun z => k1 ?_, fun z => ?_⟩
    · have z := xle z
      refine List.ext_getElem? (fun j => ?_)
      rcases Nat.lt_or_ge j i with y | y
      · exact hj j y
      · rw [List.getElem?_eq_none (by omega), List.getElem?_eq_none (by omega)]
    · have z := xlt z
      obtain ⟨c, hc⟩ : ∃ c, l[i]? = some c := ⟨_, List.getElem?_eq_getElem (by omega)⟩
      obtain ⟨d, hd⟩ : ∃ d, L[i]? = some d := ⟨_, List.getElem?_eq_getElem (by omega)⟩
      refine fm_220c h1 hto W hx hc (fun v1 q1 => ?_)
      intro b1
      rw [xtn hx]
      have q2 := M.2 i d (by omega) hd
      refine ⟨fun y => ?_, fun y => k0 (fun e => ?_)⟩
      · have y := xeq y
        refine fm_230_16 h1 hto W M hl k1 k0 n (xj1 hx (by omega)) (by omega) (fun j hj2 => ?_)
        rcases Nat.lt_or_ge j i with w | w
        · exact hj j w
        · rw [show j = i from by omega, hc, hd, show c = d from by omega]
      · have y := xne y
        rw [e, hd] at hc
        cases hc
        exact y (by rw [q1, q2])
theorem fm_230 {n to : Nat} {l L : List Nat} {x1 : Int32} {s : ps_S} {R : Int32 → ps_S → Prop} (h1 : x1.toInt = to) (hto : to < 27400) (W : mv_W s to l) (M : mk_M s L) (k1 : l = L → R 1 s) (k0 : ¬ l = L → R 0 s) : pl_Cl n 230 [.ref 1131, .int x1] s (ps_rI R) := by
  cases n with
  | zero => exact pl_At_0
  | succ n =>
  show pl_At (n + 1) 230 0 [(0, .ref 1131), (1, .int x1)] [] s (ps_rI R)
  have m1 := M.1
  refine pl_230_0 (fm_219c h1 W (fun v1 q1 => ⟨fun z => ?_, fun z => k0 (fun e => ?_)⟩))
  · have z := xeq z
    exact fm_230_16 h1 hto W M (by omega) k1 k0 n (i := 0) rfl (Nat.zero_le _) (fun j hj => absurd hj (Nat.not_lt_zero _))
  · have z := xne z
    rw [e] at q1
    exact z (q1.trans m1.symm)
/-- causes: the least -/
def bcs (z c : Nat) : Nat := if z = 0 then c else min z c
theorem fm_241 {n z c : Nat} {x1 : Int32} {s : ps_S} {R : ps_S → Prop} (h : (ps_i s 1131 50).toInt = z) (hc : x1.toInt = c) (k : ∀ s', (ps_i s' 1131 50).toInt = (bcs z c : Nat) → kq [] [50] s s' → R s') : pl_Cl n 241 [.ref 1131, .int x1] s (ps_rV R) := by
  cases n with
  | zero => exact pl_At_0
  | succ n =>
  show pl_At (n + 1) 241 0 [(0, .ref 1131), (1, .int x1)] [] s (ps_rV R)
  have c0 : (0 : Int32).toInt = 0 := Int32.toInt_zero
  have e : (ps_i (ps_ui s 1131 50 x1) 1131 50).toInt = (c : Nat) := by rw [ps_i_ui, if_pos ⟨rfl, rfl⟩]; exact hc
  unfold bcs at k
  refine pl_241_0 ⟨fun y => ?_, fun y => ⟨fun w => ?_, fun w => ?_⟩⟩
  · have y := xeq y
    refine k _ ?_ (kqi kq_refl rfl)
    rw [if_pos (by omega)]
    exact e
  · have y := xne y
    have w := xle w
    refine k _ ?_ kq_refl
    rw [if_neg (by omega)]
    omega
  · have y := xne y
    have w := xlt w
    refine k _ ?_ (kqi kq_refl rfl)
    rw [if_neg (by omega)]
    omega
theorem fm_242 {n i : Nat} {x0 : Int32} {s : ps_S} {R : Int32 → ps_S → Prop} (h : x0.toInt = i) (hi : i < 100) (k : ∀ v : Int32, v.toInt = (41 * i : Nat) → R v s) : pl_Cl n 242 [.int x0] s (ps_rI R) := by
  cases n with
  | zero => exact pl_At_0
  | succ n =>
  show pl_At (n + 1) 242 0 [(0, .int x0)] [] s (ps_rI R)
  refine pl_242_0 (k _ ?_)
  have e : ((41 : Int32) * x0).toInt = (41 * i : Nat) := xImN (by decide) h (by omega)
  rw [xIa (by rw [Int32.toInt_zero]; omega) (by rw [Int32.toInt_zero]; omega), Int32.toInt_zero, e]
  omega
theorem fm_243 {n i m : Nat} {x0 x1 : Int32} {s : ps_S} {R : Int32 → ps_S → Prop} (h : x0.toInt = i) (hi : i < 41) (h1 : x1.toInt = m) (hm : m < 41) (k : ∀ v : Int32, v.toInt = (1640 + 41 * (12 * i + m) : Nat) → R v s) : pl_Cl n 243 [.int x0, .int x1] s (ps_rI R) := by
  cases n with
  | zero => exact pl_At_0
  | succ n =>
  show pl_At (n + 1) 243 0 [(0, .int x0), (1, .int x1)] [] s (ps_rI R)
  refine pl_243_0 (k _ ?_)
  have e1 : ((12 : Int32) * x0).toInt = (12 * i : Nat) := xImN (by decide) h (by omega)
  have e2 : (((12 : Int32) * x0) + x1).toInt = (12 * i + m : Nat) := by rw [xIa (by omega) (by omega), e1, h1]; omega
  have e3 : ((41 : Int32) * (((12 : Int32) * x0) + x1)).toInt = (41 * (12 * i + m) : Nat) := xImN (by decide) e2 (by omega)
  have e4 : (1640 : Int32).toInt = 1640 := by decide
  rw [xIa (by omega) (by omega), e3, e4]
  omega

theorem fm_244 {n i m : Nat} {x1 : Int32} {s : ps_S} {R : Int32 → ps_S → Prop} (h : x1.toInt = i) (hm : (ps_a s 1153 i).toInt = m) (hm1 : m < 100) (k : ∀ v : Int32, v.toInt = (41 * m : Nat) → R v s) : pl_Cl n 244 [.ref 1131, .int x1] s (ps_rI R) := by
  cases n with
  | zero => exact pl_At_0
  | succ n =>
  show pl_At (n + 1) 244 0 [(0, .ref 1131), (1, .int x1)] [] s (ps_rI R)
  refine pl_244_0 ?_
  intro b
  rw [xtn h]
  exact fm_242 hm hm1 k
/-- any number -/
theorem fm_244o {n i : Nat} {x1 : Int32} {s : ps_S} {R : Int32 → ps_S → Prop} (k : ∀ v : Int32, R v s) : pl_Cl n 244 [.ref 1131, .int x1] s (ps_rI R) := by
  cases n with
  | zero => exact pl_At_0
  | succ n =>
  show pl_At (n + 1) 244 0 [(0, .ref 1131), (1, .int x1)] [] s (ps_rI R)
  refine pl_244_0 ?_
  intro b
  cases n with
  | zero => exact pl_At_0
  | succ n =>
  show pl_At (n + 1) 242 0 _ [] s _
  exact pl_242_0 (k _)

theorem fm_245 {n i m : Nat} {x1 : Int32} {s : ps_S} {R : Int32 → ps_S → Prop} (h : x1.toInt = i) (hm : (ps_a s 1154 i).toInt = m) (hm1 : m < 100) (k : ∀ v : Int32, v.toInt = (41 * m : Nat) → R v s) : pl_Cl n 245 [.ref 1131, .int x1] s (ps_rI R) := by
  cases n with
  | zero => exact pl_At_0
  | succ n =>
  show pl_At (n + 1) 245 0 [(0, .ref 1131), (1, .int x1)] [] s (ps_rI R)
  refine pl_245_0 ?_
  intro b
  rw [xtn h]
  exact fm_242 hm hm1 k
/-- any number -/
theorem fm_245o {n i : Nat} {x1 : Int32} {s : ps_S} {R : Int32 → ps_S → Prop} (k : ∀ v : Int32, R v s) : pl_Cl n 245 [.ref 1131, .int x1] s (ps_rI R) := by
  cases n with
  | zero => exact pl_At_0
  | succ n =>
  show pl_At (n + 1) 245 0 [(0, .ref 1131), (1, .int x1)] [] s (ps_rI R)
  refine pl_245_0 ?_
  intro b
  cases n with
  | zero => exact pl_At_0
  | succ n =>
  show pl_At (n + 1) 242 0 _ [] s _
  exact pl_242_0 (k _)

theorem fm_246 {n i m : Nat} {x1 : Int32} {s : ps_S} {R : Int32 → ps_S → Prop} (h : x1.toInt = i) (hm : (ps_a s 1155 i).toInt = m) (hm1 : m < 100) (k : ∀ v : Int32, v.toInt = (41 * m : Nat) → R v s) : pl_Cl n 246 [.ref 1131, .int x1] s (ps_rI R) := by
  cases n with
  | zero => exact pl_At_0
  | succ n =>
  show pl_At (n + 1) 246 0 [(0, .ref 1131), (1, .int x1)] [] s (ps_rI R)
  refine pl_246_0 ?_
  intro b
  rw [xtn h]
  exact fm_242 hm hm1 k
/-- any number -/
theorem fm_246o {n i : Nat} {x1 : Int32} {s : ps_S} {R : Int32 → ps_S → Prop} (k : ∀ v : Int32, R v s) : pl_Cl n 246 [.ref 1131, .int x1] s (ps_rI R) := by
  cases n with
  | zero => exact pl_At_0
  | succ n =>
  show pl_At (n + 1) 246 0 [(0, .ref 1131), (1, .int x1)] [] s (ps_rI R)
  refine pl_246_0 ?_
  intro b
  cases n with
  | zero => exact pl_At_0
  | succ n =>
  show pl_At (n + 1) 242 0 _ [] s _
  exact pl_242_0 (k _)

theorem fm_247 {n to : Nat} {l : List Nat} {x1 : Int32} {s : ps_S} {R : Int32 → ps_S → Prop} (h1 : x1.toInt = to) (hto : to < 27400) (W : mv_W s to l) (hne : l ≠ []) (k : ∀ (v : Int32) (c : Nat), l.head? = some c → v.toInt = c → R v s) : pl_Cl n 247 [.ref 1131, .int x1] s (ps_rI R) := by
  cases n with
  | zero => exact pl_At_0
  | succ n =>
  show pl_At (n + 1) 247 0 [(0, .ref 1131), (1, .int x1)] [] s (ps_rI R)
  have hl : 0 < l.length := by
    cases l with
    | nil => exact absurd rfl hne
    | cons c t => exact Nat.succ_pos _
  obtain ⟨c, hc⟩ : ∃ c, l[0]? = some c := ⟨_, List.getElem?_eq_getElem hl⟩
  exact pl_247_0 (fm_220c h1 hto W rfl hc (fun v q => k v c (by rw [head_at]; exact hc) q))
/-! a stack of ends -/
def ctE (E : List Nat) (b : Nat) : Nat := (E.filter (fun e => decide (b < e))).length
theorem ctE_all {E : List Nat} {b : Nat} (h : ∀ e, e ∈ E → b < e) : ctE E b = E.length := by
  unfold ctE
  rw [List.filter_eq_self.mpr (fun e he => decide_eq_true (h e he))]
theorem ctE_c {E : List Nat} {b e : Nat} : ctE (e :: E) b = (if b < e then 1 else 0) + ctE E b := by
  unfold ctE
  rw [List.filter_cons]
  by_cases h : b < e
  · rw [if_pos (decide_eq_true h), if_pos h, List.length_cons, Nat.add_comm]
  · rw [if_neg (by rw [decide_eq_false h]; decide), if_neg h, Nat.zero_add]
/-- ends of the alls and somes round a place i of l: S what is wanted there -/
def enI (ar : Nat → Nat) (l : List Nat) (z : Nat) (E : List Nat) (i : Nat) (S : List (Nat × Nat)) : Prop := (∀ (j : Nat) (d : Nat × Nat), S[j]? = some d → d.2 = z + ctE E (i + en ar (l.drop i) j)) ∧ (∀ e, e ∈ E → e ≤ i ∨ ∃ j, 1 ≤ j ∧ e = i + en ar (l.drop i) j) ∧ E.Pairwise (fun a b => a ≤ b)
theorem enI_pop {ar : Nat → Nat} {l : List Nat} {z i e : Nat} {E : List Nat} {S : List (Nat × Nat)} (h : enI ar l z (e :: E) i S) (he : e ≤ i) : enI ar l z E i S := by
  obtain ⟨h1, h2, h3⟩ := h
  refine ⟨fun j d hd => ?_, fun x hx => h2 x (List.mem_cons_of_mem _ hx), (List.pairwise_cons.mp h3).2⟩
  have := h1 j d hd
  rw [ctE_c, if_neg (by omega), Nat.zero_add] at this
  exact this
/-- at a piece, when what has ended is taken off -/
theorem enI_at {ar : Nat → Nat} {l : List Nat} {z i : Nat} {E : List Nat} {d : Nat × Nat} {S : List (Nat × Nat)} (h : enI ar l z E i (d :: S)) (ht : E = [] ∨ ∃ e E', E = e :: E' ∧ i < e) : d.2 = z + E.length ∧ ∀ e, e ∈ E → i + en ar (l.drop i) 1 ≤ e := by
  obtain ⟨h1, h2, h3⟩ := h
  have hall : ∀ e, e ∈ E → i < e := fun e he => by
    rcases ht with rfl | ⟨e0, E', rfl, h0⟩
    · cases he
    · rcases List.mem_cons.mp he with he | he
      · omega
      · have := (List.pairwise_cons.mp h3).1 e he
        omega
  constructor
  · have := h1 0 d rfl
    rw [en_0, Nat.add_zero, ctE_all hall] at this
    exact this
  · intro e he
    have hi := hall e he
    rcases h2 e he with y | ⟨j, j1, j2⟩
    · omega
    · obtain ⟨q, rfl⟩ : ∃ q, j = 1 + q := ⟨j - 1, by omega⟩
      rw [en_add] at j2
      omega
theorem enI_step {ar : Nat → Nat} {l : List Nat} {z i c : Nat} {E : List Nat} {d : Nat × Nat} {S : List (Nat × Nat)} (h : enI ar l z E i (d :: S)) (ht : E = [] ∨ ∃ e E', E = e :: E' ∧ i < e) (hc : l[i]? = some c) (hq : qb c = 1 → ar c = 1) (hlt : ∀ j, j < ar c → en ar (l.drop (i + 1)) j < en ar (l.drop (i + 1)) (ar c)) : enI ar l z (if qb c = 1 then (i + en ar (l.drop i) 1) :: E else E) (i + 1) (List.replicate (ar c) (d.1 + 1, d.2 + qb c) ++ S) := by
  obtain ⟨g1, g2⟩ := enI_at h ht
  obtain ⟨h1, h2, h3⟩ := h
  have e1 : i + en ar (l.drop i) 1 = i + 1 + en ar (l.drop (i + 1)) (ar c) := by
    have := en_1c (ar := ar) (k := 0) hc
    rw [Nat.zero_add, Nat.zero_add] at this
    omega
  have ej : ∀ j, i + en ar (l.drop i) (j + 1) = i + 1 + en ar (l.drop (i + 1)) (j + ar c) := fun j => by
    have := en_1c (ar := ar) (k := j) hc
    omega
  have cE : ∀ b, b < i + en ar (l.drop i) 1 → ctE E b = E.length := fun b hb => ctE_all (fun e he => by have := g2 e he; omega)
  have hq01 : qb c = 0 ∨ qb c = 1 := by
    unfold qb
    split
    · exact Or.inr rfl
    · exact Or.inl rfl
  refine ⟨fun j dd hd => ?_, fun e he => ?_, ?_⟩
  · rcases Nat.lt_or_ge j (ar c) with y | y
    · rw [List.getElem?_append_left (by rw [List.length_replicate]; exact y)] at hd
      have edd := List.eq_of_mem_replicate (List.mem_of_getElem? hd)
      have hl := hlt j y
      rw [edd]
      show d.2 + qb c = _
      rcases hq01 with q0 | q1
      · rw [if_neg (by omega), cE _ (by omega), q0]
        omega
      · rw [if_pos q1, ctE_c, if_pos (by omega), cE _ (by omega), q1]
        omega
    · rw [List.getElem?_append_right (by rw [List.length_replicate]; exact y), List.length_replicate] at hd
      have := h1 (j - ar c + 1) dd (by rw [List.getElem?_cons_succ]; exact hd)
      rw [ej, show j - ar c + ar c = j from by omega] at this
      rcases hq01 with q0 | q1
      · rw [if_neg (by omega)]
        exact this
      · have hmono : en ar (l.drop (i + 1)) (ar c) ≤ en ar (l.drop (i + 1)) j := by
          rw [show j = ar c + (j - ar c) from by omega, en_add]
          omega
        rw [if_pos q1, ctE_c, if_neg (by omega), Nat.zero_add]
        exact this
  · have old : e ∈ E → e ≤ i + 1 ∨ ∃ j, 1 ≤ j ∧ e = i + 1 + en ar (l.drop (i + 1)) j := fun he => by
      rcases h2 e he with y | ⟨j, j1, j2⟩
      · exact Or.inl (by omega)
      · obtain ⟨q, rfl⟩ : ∃ q, j = q + 1 := ⟨j - 1, by omega⟩
        rw [ej] at j2
        by_cases z0 : q + ar c = 0
        · rw [z0, en_0] at j2
          exact Or.inl (by omega)
        · exact Or.inr ⟨q + ar c, by omega, j2⟩
    split at he
    · next q1 =>
      rcases List.mem_cons.mp he with he | he
      · exact Or.inr ⟨ar c, by rw [hq q1]; exact Nat.le_refl _, by rw [he]; exact e1⟩
      · exact old he
    · exact old he
  · split
    · exact List.pairwise_cons.mpr ⟨fun e he => g2 e he, h3⟩
    · exact h3
end
section
set_option maxRecDepth 100000
/-! the reference: a term put into a row; what is assumed, gathered -/
def skE (s : ps_S) : List Nat → Prop
  | [] => True
  | e :: E => (ps_a s 1150 E.length).toInt = e ∧ skE s E
theorem skE_ext {s s' : ps_S} : ∀ {E : List Nat}, skE s E → (∀ i, i < E.length → ps_a s' 1150 i = ps_a s 1150 i) → skE s' E
  | [], _, _ => trivial
  | e :: E, h, q => by
    refine ⟨?_, skE_ext h.2 (fun i hi => q i (by rw [List.length_cons]; omega))⟩
    rw [q E.length (by rw [List.length_cons]; omega)]
    exact h.1
def KP (s0 s : ps_S) : Prop := kq [1149, 1150] [34] s0 s
theorem en_mono {σ : mSig} {ar : Nat → Nat} (hA : ArW σ ar) {t : List Nat} {W : List Bool} (h : ws σ t W) {a j : Nat} (hj : j < a) (ha : a ≤ W.length) : en ar t j < en ar t a := by
  obtain ⟨q, rfl⟩ : ∃ q, a = j + (q + 1) := ⟨a - j - 1, by omega⟩
  rw [en_add]
  have hr := (en_rest hA (k := j) h (by omega)).1
  have hl := en_lt hA h (k := j) (by omega)
  have := en_pos (ar := ar) (t := t.drop (en ar t j)) (p := q + 1) (by rw [List.length_drop]; omega) (Nat.succ_pos _)
  omega
theorem fm_231_16 {n0 i : Nat} {Pq : List Nat → Prop} {s : ps_S} {R : ps_S → Prop} {x1 x2 x3 x5 : Int32} (hpop : ∀ e E, Pq (e :: E) → e ≤ i → Pq E) (h5 : x5.toInt = i) (kk : ∀ {x4 : Int32} {E : List Nat}, x4.toInt = E.length → E.length ≤ 100 → skE s E → Pq E → (E = [] ∨ ∃ e E', E = e :: E' ∧ i < e) → pl_At n0 231 41 [(0, .ref 1131), (1, .int x1), (2, .int x2), (3, .int x3), (4, .int x4), (5, .int x5)] [] s (ps_rV R)) : ∀ (n : Nat) {x4 : Int32} {E : List Nat}, n ≤ n0 → x4.toInt = E.length → E.length ≤ 100 → skE s E → Pq E → pl_At n 231 16 [(0, .ref 1131), (1, .int x1), (2, .int x2), (3, .int x3), (4, .int x4), (5, .int x5)] [] s (ps_rV R)
  | 0, _, _, _, _, _, _, _ => pl_At_0
  | n + 1, x4, E, hn, h4, hE, hS, hP => by
    have c0 : (0 : Int32).toInt = 0 := Int32.toInt_zero
    have c1 : (1 : Int32).toInt = 1 := by decide
    refine pl_231_16 ⟨fun z => ?_, fun z => ?_⟩
    · have z := xle z
      have e : E = [] := by
        cases E with
        | nil => rfl
        | cons a G => rw [List.length_cons] at h4; omega
      exact (kk h4 hE hS hP (Or.inl e)).le (by omega)
    · have z := xlt z
      cases E with
      | nil =>
        rw [List.length_nil] at h4
        omega
      | cons e E' =>
        rw [List.length_cons] at h4 hE
        have e1 : (x4 - 1).toInt = (E'.length : Nat) := by rw [xIs (by omega) (by omega), h4, c1]; omega
        obtain ⟨s1, s2⟩ := id hS
        intro b1
        rw [xtn e1]
        refine ⟨fun y => ?_, fun y => ?_⟩
        · have y := xlt y
          exact (kk (E := e :: E') (by rw [List.length_cons]; exact h4) (by rw [List.length_cons]; exact hE) hS hP (Or.inr ⟨e, E', rfl, by omega⟩)).le (by omega)
        · have y := xle y
          clear e1 b1
          have e2 : (x4 + Int32.ofInt (-1)).toInt = (E'.length : Nat) := by
            rw [xof1 (b := E'.length + 1) h4 (by omega)]
            omega
          generalize x4 + Int32.ofInt (-1) = x9 at e2 ⊢
          exact fm_231_16 hpop h5 kk n (by omega) e2 (by omega) s2 (hpop e E' hP (by omega))

theorem fm_232_20 {n0 i : Nat} {Pq : List Nat → Prop} {s : ps_S} {R : ps_S → Prop} {x1 x2 x5 : Int32} (hpop : ∀ e E, Pq (e :: E) → e ≤ i → Pq E) (h5 : x5.toInt = i) (kk : ∀ {x4 : Int32} {E : List Nat}, x4.toInt = E.length → E.length ≤ 100 → skE s E → Pq E → (E = [] ∨ ∃ e E', E = e :: E' ∧ i < e) → pl_At n0 232 43 [(0, .ref 1131), (1, .int x1), (2, .int x2), (3, .int x4), (4, .int x5)] [] s (ps_rV R)) : ∀ (n : Nat) {x4 : Int32} {E : List Nat}, n ≤ n0 → x4.toInt = E.length → E.length ≤ 100 → skE s E → Pq E → pl_At n 232 20 [(0, .ref 1131), (1, .int x1), (2, .int x2), (3, .int x4), (4, .int x5)] [] s (ps_rV R)
  | 0, _, _, _, _, _, _, _ => pl_At_0
  | n + 1, x4, E, hn, h4, hE, hS, hP => by
    have c0 : (0 : Int32).toInt = 0 := Int32.toInt_zero
    have c1 : (1 : Int32).toInt = 1 := by decide
    refine pl_232_20 ⟨fun z => ?_, fun z => ?_⟩
    · have z := xle z
      have e : E = [] := by
        cases E with
        | nil => rfl
        | cons a G => rw [List.length_cons] at h4; omega
      exact (kk h4 hE hS hP (Or.inl e)).le (by omega)
    · have z := xlt z
      cases E with
      | nil =>
        rw [List.length_nil] at h4
        omega
      | cons e E' =>
        rw [List.length_cons] at h4 hE
        have e1 : (x4 - 1).toInt = (E'.length : Nat) := by rw [xIs (by omega) (by omega), h4, c1]; omega
        obtain ⟨s1, s2⟩ := id hS
        intro b1
        rw [xtn e1]
        refine ⟨fun y => ?_, fun y => ?_⟩
        · have y := xlt y
          exact (kk (E := e :: E') (by rw [List.length_cons]; exact h4) (by rw [List.length_cons]; exact hE) hS hP (Or.inr ⟨e, E', rfl, by omega⟩)).le (by omega)
        · have y := xle y
          clear e1 b1
          have e2 : (x4 + Int32.ofInt (-1)).toInt = (E'.length : Nat) := by
            rw [xof1 (b := E'.length + 1) h4 (by omega)]
            omega
          generalize x4 + Int32.ofInt (-1) = x9 at e2 ⊢
          exact fm_232_20 hpop h5 kk n (by omega) e2 (by omega) s2 (hpop e E' hP (by omega))

theorem fm_231_6 {b to : Nat} {g : tx_g} {l L0 tt : List Nat} {x1 x2 x3 : Int32} {s0 : ps_S} {R : ps_S → Prop} (hb : b < 2) (h21 : (ps_i s0 1131 21).toInt = b) (H0 : mv_E s0 b g) (hA : ArW (sg g) (arh g)) (h1 : x1.toInt = to) (hto : to < 27400) (W0 : mv_W s0 to l) (ht : L0.length ≤ 1000 ∧ tt.length ≤ 40 ∧ ((x2.toInt < 0 ∧ ∃ x : Nat, x3.toInt = x ∧ x < 100 ∧ tt = [60 + x]) ∨ ∃ q : Nat, x2.toInt = q ∧ q < 27400 ∧ mv_W s0 q tt)) (k : ∀ s', mk_M s' (L0 ++ tq_in (arh g) l tt) → KP s0 s' → R s') : ∀ (n : Nat) {s : ps_S} {x4 x5 : Int32} {i : Nat} {L E : List Nat} {D1 S : List (Nat × Nat)} {W : List Bool}, x5.toInt = i → 1 ≤ i → i ≤ l.length → x4.toInt = E.length → E.length ≤ i → skE s E → enI (arh g) l 1 E i S → ly (arh g) [(0, 0)] l = D1 ++ ly (arh g) S (l.drop i) → D1.length = i → ws (sg g) (l.drop i) W → S.length = W.length → mk_M s (L0 ++ L) → L.length ≤ 40 * i → tq_in (arh g) l tt = L ++ tq_pi tt ((ly (arh g) [(0, 0)] l).drop i) (l.drop i) → KP s0 s → pl_At n 231 6 [(0, .ref 1131), (1, .int x1), (2, .int x2), (3, .int x3), (4, .int x4), (5, .int x5)] [] s (ps_rV R)
  | 0, _, _, _, _, _, _, _, _, _, _, _, _, _, _, _, _, _, _, _, _, _, _, _, _ => pl_At_0
  | n + 1, s, x4, x5, i, L, E, D1, S, W, h5, hi1, hi, h4, hE, hSk, hI, hD, hD1, hw, hSW, M, hL, hsp, K => by
    have h40 := W0.2.1
    have c40 : (40 : Int32).toInt = 40 := by decide
    have c60 : (60 : Int32).toInt = 60 := by decide
    have Wr := mv_W_kq W0 K (by decide)
    have H := mv_E_kq H0 K (by decide)
    have h21' : (ps_i s 1131 21).toInt = b := by rw [kq_i K 21 rfl]; exact h21
    have hlen : (L0 ++ L).length < 50000 := by rw [List.length_append]; omega
    refine pl_231_6 (fm_219c h1 Wr (fun v1 q1 => ⟨fun z => ?_, fun z => ?_⟩))
    · have z := xle z
      have ei : i = l.length := by omega
      rw [ei, List.drop_length] at hsp
      have e0 : tq_pi tt ((ly (arh g) [(0, 0)] l).drop l.length) [] = [] := by
        cases (ly (arh g) [(0, 0)] l).drop l.length <;> rfl
      rw [e0, List.append_nil] at hsp
      exact k s (by rw [hsp]; exact M) K
    · have z := xlt z
      obtain ⟨c, hc⟩ : ∃ c, l[i]? = some c := ⟨_, List.getElem?_eq_getElem (by omega)⟩
      rw [drop_c hc] at hw hD
      obtain ⟨bb, W', ks, rfl, hk, hw'⟩ := ws_cons.mp hw
      have ha := hA bb c ks hk
      obtain ⟨d, S', rfl⟩ : ∃ d S', S = d :: S' := by
        cases S with
        | nil => cases hSW
        | cons d S' => exact ⟨d, S', rfl⟩
      have hly : ly (arh g) (d :: S') (c :: l.drop (i + 1)) = d :: ly (arh g) (List.replicate (arh g c) (d.1 + 1, d.2 + qb c) ++ S') (l.drop (i + 1)) := rfl
      rw [hly] at hD
      have hDi : (ly (arh g) [(0, 0)] l)[i]? = some d := by
        rw [hD, List.getElem?_append_right (by omega), hD1, Nat.sub_self]
        rfl
      have hD2 : ly (arh g) [(0, 0)] l = (D1 ++ [d]) ++ ly (arh g) (List.replicate (arh g c) (d.1 + 1, d.2 + qb c) ++ S') (l.drop (i + 1)) := by
        rw [hD, List.append_assoc]
        rfl
      have hD12 : (D1 ++ [d]).length = i + 1 := by rw [List.length_append, hD1]; rfl
      have hSW2 : (List.replicate (arh g c) (d.1 + 1, d.2 + qb c) ++ S').length = (ks ++ W').length := by
        rw [List.length_append, List.length_append, List.length_replicate, ha]
        rw [List.length_cons, List.length_cons] at hSW
        omega
      rw [drop_c hc, drop_g hDi] at hsp
      refine fm_231_16 (n0 := n) (i := i) (Pq := fun E => enI (arh g) l 1 E i (d :: S') ∧ E.length ≤ i) (fun e E2 hP he => ⟨enI_pop hP.1 he, by have := hP.2; rw [List.length_cons] at this; omega⟩) h5 (fun {y4 E2} g4 gE gS gP gt => ?_) n (Nat.le_refl _) h4 (by omega) hSk ⟨hI, hE⟩
      obtain ⟨gI, gE⟩ := gP
      have ed := (enI_at gI gt).1
      have hlt : ∀ j, j < arh g c → en (arh g) (l.drop (i + 1)) j < en (arh g) (l.drop (i + 1)) (arh g c) := fun j hj => en_mono hA hw' hj (by rw [List.length_append]; omega)
      have hq1 : qb c = 1 → arh g c = 1 := fun q => by
        have h45 : c = 4 ∨ c = 5 := by
          unfold qb at q
          split at q
          · assumption
          · cases q
        exact (arh_lo (g := g) (c := c)).2.2.1 h45
      have st2 := enI_step gI gt hc hq1 hlt
      -- behind the piece
      have after : ∀ {s5 : ps_S} {L5 : List Nat}, mk_M s5 (L0 ++ L5) → L5.length ≤ 40 * (i + 1) → tq_in (arh g) l tt = L5 ++ tq_pi tt ((ly (arh g) [(0, 0)] l).drop (i + 1)) (l.drop (i + 1)) → KP s s5 → skE s5 E2 → ∀ {n' : Nat}, n' ≤ n → ((c = 4 ∨ c = 5) → pl_At n' 231 101 [(0, .ref 1131), (1, .int x1), (2, .int x2), (3, .int x3), (4, .int y4), (5, .int x5)] [] s5 (ps_rV R)) ∧ (¬ (c = 4 ∨ c = 5) → pl_At n' 231 6 [(0, .ref 1131), (1, .int x1), (2, .int x2), (3, .int x3), (4, .int y4), (5, .int (x5 + 1))] [] s5 (ps_rV R)) := fun {s5 L5} M5 hL5 hsp5 K5 hS5 {n'} hn' => by
        have K5' : KP s0 s5 := kqt K K5 (by decide) (by decide)
        refine ⟨fun h45 => ?_, fun h45 => ?_⟩
        · rw [if_pos (qb_1 h45)] at st2
          cases n' with
          | zero => exact pl_At_0
          | succ n' =>
          have W5 := mv_W_kq W0 K5' (by decide)
          have H5 := mv_E_kq H0 K5' (by decide)
          have h215 : (ps_i s5 1131 21).toInt = b := by rw [kq_i K5' 21 rfl]; exact h21
          refine pl_231_101 (fm_221 hb h215 H5 h1 hto W5 h5 (by rw [drop_c hc]; exact hw) (fun v2 q2 => ?_))
          intro b2
          rw [xtn g4]
          refine (fm_231_6 hb h21 H0 hA h1 hto W0 ht k n (E := (i + en (arh g) (l.drop i) 1) :: E2) (L := L5) (xj1 h5 (by omega)) (by omega) (by omega) (by rw [List.length_cons]; exact xj1 g4 (by omega)) (by rw [List.length_cons]; omega) ⟨?_, skE_ext hS5 (fun j hj => ?_)⟩ st2 hD2 hD12 hw' hSW2 (mk_M_kq M5 (kqa kq_refl rfl : kq [1150] [] _ _) (by decide) (by decide)) hL5 hsp5 (kqa K5' rfl)).le (by omega)
          · rw [ps_a_ua, if_pos ⟨rfl, rfl⟩]
            exact q2
          · rw [ps_a_ua, if_neg (by omega)]
        · rw [if_neg (by rw [qb_0 h45]; decide)] at st2
          exact (fm_231_6 hb h21 H0 hA h1 hto W0 ht k n (E := E2) (L := L5) (xj1 h5 (by omega)) (by omega) (by omega) g4 (by omega) hS5 st2 hD2 hD12 hw' hSW2 M5 hL5 hsp5 K5').le (by omega)
      have e40 : ((40 : Int32) + y4).toInt = (40 + E2.length : Nat) := by rw [xIa (by omega) (by omega), c40, g4]; omega
      have at89 : ∀ {s5 : ps_S} {v : Int32} {L5 : List Nat}, v.toInt = c → mk_M s5 (L0 ++ L5) → L5.length ≤ 40 * (i + 1) → tq_in (arh g) l tt = L5 ++ tq_pi tt ((ly (arh g) [(0, 0)] l).drop (i + 1)) (l.drop (i + 1)) → KP s s5 → skE s5 E2 → ∀ {n' : Nat}, n' ≤ n → pl_At n' 231 89 [(0, .ref 1131), (1, .int x1), (2, .int x2), (3, .int x3), (4, .int y4), (5, .int x5), (6, .int v)] [] s5 (ps_rV R) := fun {s5 v L5} hv M5 hL5 hsp5 K5 hS5 {n'} hn' => by
        cases n' with
        | zero => exact pl_At_0
        | succ n' =>
        obtain ⟨a1, a2⟩ := after M5 hL5 hsp5 K5 hS5 (n' := n') (by omega)
        refine pl_231_89 ⟨fun y => a1 (Or.inl ?_), fun y => ⟨fun y2 => a2 ?_, fun y2 => a1 (Or.inr ?_)⟩⟩
        · have y : v.toInt = (4 : Int) := xeq y
          omega
        · have y : v.toInt ≠ (4 : Int) := xne y
          have y2 : v.toInt ≠ (5 : Int) := xne y2
          omega
        · have y2 : v.toInt = (5 : Int) := xeq y2
          omega
      have hsp : tq_in (arh g) l tt = L ++ ((if c + 1 = 40 + d.2 then tt else [c]) ++ tq_pi tt ((ly (arh g) [(0, 0)] l).drop (i + 1)) (l.drop (i + 1))) := hsp
      cases n with
      | zero => exact pl_At_0
      | succ n =>
      refine pl_231_41 (fm_220c h1 hto Wr h5 hc (fun v1 q1 => ⟨fun y => ?_, fun y => ⟨fun y2 => ?_, fun y2 => ?_⟩⟩))
      · have y := xne y
        rw [if_neg (by omega), ← List.append_assoc] at hsp
        refine fm_225 M q1 (by omega) (fun s2 M2 K2 => ?_)
        rw [List.append_assoc] at M2
        exact at89 q1 M2 (by rw [List.length_append, List.length_singleton]; omega) hsp (kqt kq_refl K2 (by decide) (by decide)) (skE_ext gS (fun j _ => by rw [kq_a K2 1150 (by decide)])) (Nat.le_succ _)
      · have y := xeq y
        have y2 := xlt y2
        rw [if_pos (by omega), ← List.append_assoc] at hsp
        rcases ht.2.2 with ⟨-, x, hx, hx1, htt⟩ | ⟨q, hq, -⟩
        · have e60 : ((60 : Int32) + x3).toInt = (60 + x : Nat) := by rw [xIa (by omega) (by omega), c60, hx]; omega
          refine fm_225 M e60 (by omega) (fun s2 M2 K2 => ?_)
          rw [List.append_assoc, ← htt] at M2
          exact at89 q1 M2 (by rw [List.length_append]; omega) hsp (kqt kq_refl K2 (by decide) (by decide)) (skE_ext gS (fun j _ => by rw [kq_a K2 1150 (by decide)])) (Nat.le_succ _)
        · have c0 : (0 : Int32).toInt = 0 := Int32.toInt_zero
          omega
      · have y := xeq y
        have y2 := xle y2
        have c0 : (0 : Int32).toInt = 0 := Int32.toInt_zero
        rw [if_pos (by omega), ← List.append_assoc] at hsp
        rcases ht.2.2 with ⟨hn, -⟩ | ⟨q, hq, hq1, Wt⟩
        · omega
        · refine fm_227 hq hq1 (mv_W_kq Wt K (by decide)) M (by omega) (fun s2 M2 K2 => ?_)
          rw [List.append_assoc] at M2
          exact at89 q1 M2 (by rw [List.length_append]; omega) hsp (kqt kq_refl K2 (by decide) (by decide)) (skE_ext gS (fun j _ => by rw [kq_a K2 1150 (by decide)])) (Nat.le_succ _)

theorem fm_231 {n b to : Nat} {g : tx_g} {l L0 tt : List Nat} {x1 x2 x3 : Int32} {s0 : ps_S} {R : ps_S → Prop} (hb : b < 2) (h21 : (ps_i s0 1131 21).toInt = b) (H0 : mv_E s0 b g) (h1 : x1.toInt = to) (hto : to < 27400) (W0 : mv_W s0 to l) (hw : ws (sg g) l [true]) (hc : l.head? = some 4 ∨ l.head? = some 5) (M : mk_M s0 L0) (ht : L0.length ≤ 1000 ∧ tt.length ≤ 40 ∧ ((x2.toInt < 0 ∧ ∃ x : Nat, x3.toInt = x ∧ x < 100 ∧ tt = [60 + x]) ∨ ∃ q : Nat, x2.toInt = q ∧ q < 27400 ∧ mv_W s0 q tt)) (k : ∀ s', mk_M s' (L0 ++ tq_in (arh g) l tt) → KP s0 s' → R s') : pl_Cl n 231 [.ref 1131, .int x1, .int x2, .int x3] s0 (ps_rV R) := by
  cases n with
  | zero => exact pl_At_0
  | succ n =>
  show pl_At (n + 1) 231 0 [(0, .ref 1131), (1, .int x1), (2, .int x2), (3, .int x3)] [] s0 (ps_rV R)
  have hA := arh_k H0.2.2.1 H0.2.2.2.1
  cases l with
  | nil => rcases hc with hc | hc <;> cases hc
  | cons c t =>
    have hc : c = 4 ∨ c = 5 := by
      rcases hc with hc | hc
      · exact Or.inl (Option.some.inj hc)
      · exact Or.inr (Option.some.inj hc)
    obtain ⟨bb, W', ks, e, hk, h2⟩ := ws_cons.mp hw
    cases e
    rw [kS_f1 hc] at hk
    cases hk
    have ha := (arh_lo (g := g) (c := c)).2.2.1 hc
    refine pl_231_0 (fm_231_6 hb h21 H0 hA h1 hto W0 ht k n (i := 1) (L := []) (E := []) (D1 := [(0, 0)]) (S := [(1, 1)]) rfl (Nat.le_refl _) (by rw [List.length_cons]; omega) rfl (Nat.zero_le _) trivial ⟨fun j d hd => ?_, fun e he => (by cases he), List.Pairwise.nil⟩ ?_ rfl h2 rfl (by rw [List.append_nil]; exact M) (Nat.zero_le _) rfl kq_refl)
    · cases j with
      | zero => cases hd; rfl
      | succ j => cases hd
    · show (0, 0) :: ly (arh g) (List.replicate (arh g c) (0 + 1, 0 + qb c) ++ []) t = [(0, 0)] ++ ly (arh g) [(1, 1)] t
      rw [ha, qb_1 hc]
      rfl

theorem fm_232_10 {b to x : Nat} {g : tx_g} {l L0 : List Nat} {x1 x2 : Int32} {s0 : ps_S} {R : ps_S → Prop} (hb : b < 2) (h21 : (ps_i s0 1131 21).toInt = b) (H0 : mv_E s0 b g) (hA : ArW (sg g) (arh g)) (h1 : x1.toInt = to) (hto : to < 27400) (W0 : mv_W s0 to l) (hx : x2.toInt = x) (hx1 : x < 100) (hL0 : L0.length ≤ 1000) (k : ∀ s', mk_M s' (L0 ++ tq_gi x (ly (arh g) [(0, 0)] l) l) → KP s0 s' → R s') : ∀ (n : Nat) {s : ps_S} {x4 x5 : Int32} {i : Nat} {L E : List Nat} {D1 S : List (Nat × Nat)} {W : List Bool}, x5.toInt = i → i ≤ l.length → x4.toInt = E.length → E.length ≤ i → skE s E → enI (arh g) l 0 E i S → ly (arh g) [(0, 0)] l = D1 ++ ly (arh g) S (l.drop i) → D1.length = i → ws (sg g) (l.drop i) W → S.length = W.length → mk_M s (L0 ++ L) → L.length ≤ i → tq_gi x (ly (arh g) [(0, 0)] l) l = L ++ tq_gi x ((ly (arh g) [(0, 0)] l).drop i) (l.drop i) → KP s0 s → pl_At n 232 10 [(0, .ref 1131), (1, .int x1), (2, .int x2), (3, .int x4), (4, .int x5)] [] s (ps_rV R)
  | 0, _, _, _, _, _, _, _, _, _, _, _, _, _, _, _, _, _, _, _, _, _, _, _ => pl_At_0
  | n + 1, s, x4, x5, i, L, E, D1, S, W, h5, hi, h4, hE, hSk, hI, hD, hD1, hw, hSW, M, hL, hsp, K => by
    have h40 := W0.2.1
    have c40 : (40 : Int32).toInt = 40 := by decide
    have c60 : (60 : Int32).toInt = 60 := by decide
    have Wr := mv_W_kq W0 K (by decide)
    have H := mv_E_kq H0 K (by decide)
    have h21' : (ps_i s 1131 21).toInt = b := by rw [kq_i K 21 rfl]; exact h21
    have hlen : (L0 ++ L).length < 50000 := by rw [List.length_append]; omega
    refine pl_232_10 (fm_219c h1 Wr (fun v1 q1 => ⟨fun z => ?_, fun z => ?_⟩))
    · have z := xle z
      have ei : i = l.length := by omega
      rw [ei, List.drop_length] at hsp
      have e0 : tq_gi x ((ly (arh g) [(0, 0)] l).drop l.length) [] = [] := by
        cases (ly (arh g) [(0, 0)] l).drop l.length <;> rfl
      rw [e0, List.append_nil] at hsp
      exact k s (by rw [hsp]; exact M) K
    · have z := xlt z
      obtain ⟨c, hc⟩ : ∃ c, l[i]? = some c := ⟨_, List.getElem?_eq_getElem (by omega)⟩
      rw [drop_c hc] at hw hD
      obtain ⟨bb, W', ks, rfl, hk, hw'⟩ := ws_cons.mp hw
      have ha := hA bb c ks hk
      obtain ⟨d, S', rfl⟩ : ∃ d S', S = d :: S' := by
        cases S with
        | nil => cases hSW
        | cons d S' => exact ⟨d, S', rfl⟩
      have hly : ly (arh g) (d :: S') (c :: l.drop (i + 1)) = d :: ly (arh g) (List.replicate (arh g c) (d.1 + 1, d.2 + qb c) ++ S') (l.drop (i + 1)) := rfl
      rw [hly] at hD
      have hDi : (ly (arh g) [(0, 0)] l)[i]? = some d := by
        rw [hD, List.getElem?_append_right (by omega), hD1, Nat.sub_self]
        rfl
      have hD2 : ly (arh g) [(0, 0)] l = (D1 ++ [d]) ++ ly (arh g) (List.replicate (arh g c) (d.1 + 1, d.2 + qb c) ++ S') (l.drop (i + 1)) := by
        rw [hD, List.append_assoc]
        rfl
      have hD12 : (D1 ++ [d]).length = i + 1 := by rw [List.length_append, hD1]; rfl
      have hSW2 : (List.replicate (arh g c) (d.1 + 1, d.2 + qb c) ++ S').length = (ks ++ W').length := by
        rw [List.length_append, List.length_append, List.length_replicate, ha]
        rw [List.length_cons, List.length_cons] at hSW
        omega
      rw [drop_c hc, drop_g hDi] at hsp
      refine fm_232_20 (n0 := n) (i := i) (Pq := fun E => enI (arh g) l 0 E i (d :: S') ∧ E.length ≤ i) (fun e E2 hP he => ⟨enI_pop hP.1 he, by have := hP.2; rw [List.length_cons] at this; omega⟩) h5 (fun {y4 E2} g4 gE gS gP gt => ?_) n (Nat.le_refl _) h4 (by omega) hSk ⟨hI, hE⟩
      obtain ⟨gI, gE⟩ := gP
      have ed := (enI_at gI gt).1
      have hlt : ∀ j, j < arh g c → en (arh g) (l.drop (i + 1)) j < en (arh g) (l.drop (i + 1)) (arh g c) := fun j hj => en_mono hA hw' hj (by rw [List.length_append]; omega)
      have hq1 : qb c = 1 → arh g c = 1 := fun q => by
        have h45 : c = 4 ∨ c = 5 := by
          unfold qb at q
          split at q
          · assumption
          · cases q
        exact (arh_lo (g := g) (c := c)).2.2.1 h45
      have st2 := enI_step gI gt hc hq1 hlt
      -- behind the piece
      have after : ∀ {s5 : ps_S} {L5 : List Nat}, mk_M s5 (L0 ++ L5) → L5.length ≤ (i + 1) → tq_gi x (ly (arh g) [(0, 0)] l) l = L5 ++ tq_gi x ((ly (arh g) [(0, 0)] l).drop (i + 1)) (l.drop (i + 1)) → KP s s5 → skE s5 E2 → ∀ {n' : Nat}, n' ≤ n → ((c = 4 ∨ c = 5) → pl_At n' 232 86 [(0, .ref 1131), (1, .int x1), (2, .int x2), (3, .int y4), (4, .int x5)] [] s5 (ps_rV R)) ∧ (¬ (c = 4 ∨ c = 5) → pl_At n' 232 10 [(0, .ref 1131), (1, .int x1), (2, .int x2), (3, .int y4), (4, .int (x5 + 1))] [] s5 (ps_rV R)) := fun {s5 L5} M5 hL5 hsp5 K5 hS5 {n'} hn' => by
        have K5' : KP s0 s5 := kqt K K5 (by decide) (by decide)
        refine ⟨fun h45 => ?_, fun h45 => ?_⟩
        · rw [if_pos (qb_1 h45)] at st2
          cases n' with
          | zero => exact pl_At_0
          | succ n' =>
          have W5 := mv_W_kq W0 K5' (by decide)
          have H5 := mv_E_kq H0 K5' (by decide)
          have h215 : (ps_i s5 1131 21).toInt = b := by rw [kq_i K5' 21 rfl]; exact h21
          refine pl_232_86 (fm_221 hb h215 H5 h1 hto W5 h5 (by rw [drop_c hc]; exact hw) (fun v2 q2 => ?_))
          intro b2
          rw [xtn g4]
          refine (fm_232_10 hb h21 H0 hA h1 hto W0 hx hx1 hL0 k n (E := (i + en (arh g) (l.drop i) 1) :: E2) (L := L5) (xj1 h5 (by omega)) (by omega) (by rw [List.length_cons]; exact xj1 g4 (by omega)) (by rw [List.length_cons]; omega) ⟨?_, skE_ext hS5 (fun j hj => ?_)⟩ st2 hD2 hD12 hw' hSW2 (mk_M_kq M5 (kqa kq_refl rfl : kq [1150] [] _ _) (by decide) (by decide)) hL5 hsp5 (kqa K5' rfl)).le (by omega)
          · rw [ps_a_ua, if_pos ⟨rfl, rfl⟩]
            exact q2
          · rw [ps_a_ua, if_neg (by omega)]
        · rw [if_neg (by rw [qb_0 h45]; decide)] at st2
          exact (fm_232_10 hb h21 H0 hA h1 hto W0 hx hx1 hL0 k n (E := E2) (L := L5) (xj1 h5 (by omega)) (by omega) g4 (by omega) hS5 st2 hD2 hD12 hw' hSW2 M5 hL5 hsp5 K5').le (by omega)
      have e40 : ((40 : Int32) + y4).toInt = (40 + E2.length : Nat) := by rw [xIa (by omega) (by omega), c40, g4]; omega
      have e60 : ((60 : Int32) + x2).toInt = (60 + x : Nat) := by rw [xIa (by omega) (by omega), c60, hx]; omega
      have hsp : tq_gi x (ly (arh g) [(0, 0)] l) l = L ++ ([if c = 60 + x then 40 + d.2 else c] ++ tq_gi x ((ly (arh g) [(0, 0)] l).drop (i + 1)) (l.drop (i + 1))) := hsp
      cases n with
      | zero => exact pl_At_0
      | succ n =>
      refine pl_232_43 (fm_220c h1 hto Wr h5 hc (fun v1 q1 => ⟨fun y => ?_, fun y => ?_⟩))
      · have y := xne y
        rw [if_neg (by omega), ← List.append_assoc] at hsp
        refine fm_225 M q1 (by omega) (fun s2 M2 K2 => ?_)
        rw [List.append_assoc] at M2
        obtain ⟨a1, a2⟩ := after M2 (by rw [List.length_append, List.length_singleton]; omega) hsp (kqt kq_refl K2 (by decide) (by decide)) (skE_ext gS (fun j _ => by rw [kq_a K2 1150 (by decide)])) (n' := n) (Nat.le_succ _)
        refine ⟨fun y => a1 (Or.inl ?_), fun y => ⟨fun y2 => a2 ?_, fun y2 => a1 (Or.inr ?_)⟩⟩
        · have y : v1.toInt = (4 : Int) := xeq y
          omega
        · have y : v1.toInt ≠ (4 : Int) := xne y
          have y2 : v1.toInt ≠ (5 : Int) := xne y2
          omega
        · have y2 : v1.toInt = (5 : Int) := xeq y2
          omega
      · have y := xeq y
        rw [if_pos (by omega), ← List.append_assoc] at hsp
        refine fm_225 M e40 (by omega) (fun s2 M2 K2 => ?_)
        rw [List.append_assoc, show 40 + E2.length = 40 + d.2 from by omega] at M2
        obtain ⟨a1, a2⟩ := after M2 (by rw [List.length_append, List.length_singleton]; omega) hsp (kqt kq_refl K2 (by decide) (by decide)) (skE_ext gS (fun j _ => by rw [kq_a K2 1150 (by decide)])) (n' := n) (Nat.le_succ _)
        refine ⟨fun y => a1 (Or.inl ?_), fun y => ⟨fun y2 => a2 ?_, fun y2 => a1 (Or.inr ?_)⟩⟩
        · have y : v1.toInt = (4 : Int) := xeq y
          omega
        · have y : v1.toInt ≠ (4 : Int) := xne y
          have y2 : v1.toInt ≠ (5 : Int) := xne y2
          omega
        · have y2 : v1.toInt = (5 : Int) := xeq y2
          omega

theorem fm_232 {n b to x : Nat} {g : tx_g} {l L0 : List Nat} {x1 x2 : Int32} {s0 : ps_S} {R : ps_S → Prop} (hb : b < 2) (h21 : (ps_i s0 1131 21).toInt = b) (H0 : mv_E s0 b g) (h1 : x1.toInt = to) (hto : to < 27400) (W0 : mv_W s0 to l) (hw : ws (sg g) l [true]) (M : mk_M s0 L0) (hx : x2.toInt = x) (hx1 : x < 100) (hL0 : L0.length ≤ 999) (k : ∀ s', mk_M s' (L0 ++ tq_ge (arh g) l x) → KP s0 s' → R s') : pl_Cl n 232 [.ref 1131, .int x1, .int x2] s0 (ps_rV R) := by
  cases n with
  | zero => exact pl_At_0
  | succ n =>
  show pl_At (n + 1) 232 0 [(0, .ref 1131), (1, .int x1), (2, .int x2)] [] s0 (ps_rV R)
  have hA := arh_k H0.2.2.1 H0.2.2.2.1
  refine pl_232_0 (fm_225 (c := 4) M rfl (by omega) (fun s1 M1 K1 => ?_))
  refine fm_232_10 (s0 := s1) (L0 := L0 ++ [4]) hb (by rw [kq_i K1 21 rfl]; exact h21) (mv_E_kq H0 K1 (by decide)) hA h1 hto (mv_W_kq W0 K1 (by decide)) hx hx1 (by rw [List.length_append, List.length_singleton]; omega) (fun s' M' K' => k s' ?_ (kqt (kqt kq_refl K1 (by decide) (by decide)) K' (by decide) (by decide))) n (i := 0) (L := []) (E := []) (D1 := []) (S := [(0, 0)]) rfl (Nat.zero_le _) rfl (Nat.zero_le _) trivial ⟨fun j d hd => ?_, fun e he => (by cases he), List.Pairwise.nil⟩ rfl rfl hw rfl (by rw [List.append_nil]; exact M1) (Nat.zero_le _) rfl kq_refl
  · rw [List.append_assoc] at M'
    exact M'
  · cases j with
    | zero => cases hd; rfl
    | succ j => cases hd

/-- what the i-th step assumes, as it is gathered; at most b rows were tried -/
def PAm (s : ps_S) (i : Nat) (A : List (List Nat)) (b : Nat) : Prop := (∃ c : Nat, (ps_i s 1131 51).toInt = c ∧ c ≤ b ∧ (A.length ≤ 12 → c = A.length) ∧ (12 < A.length → 12 < c)) ∧ A.length ≤ 13 ∧ ∀ (n : Nat) (y : List Nat), n < 12 → A[n]? = some y → mv_W s (1640 + 41 * (12 * i + n)) y
/-- the pool but for what the i-th step assumes -/
def mpA (i : Nat) (s s' : ps_S) : Prop := ∀ q, (q < 1640 + 492 * i ∨ 1640 + 492 * i + 492 ≤ q) → ps_a s' 1134 q = ps_a s 1134 q
def KA (i : Nat) (s0 s : ps_S) : Prop := kq [1134] [51] s0 s ∧ mpA i s0 s
theorem KA_refl {i : Nat} {s : ps_S} : KA i s s := ⟨kq_refl, fun _ _ => rfl⟩
theorem KA_tr {i : Nat} {s s1 s2 : ps_S} (h : KA i s s1) (h' : KA i s1 s2) : KA i s s2 := ⟨kqt h.1 h'.1 (by decide) (by decide), fun q hq => (h'.2 q hq).trans (h.2 q hq)⟩
theorem PAm_kq {A F : List Nat} {s s' : ps_S} {i b : Nat} {L : List (List Nat)} (h : PAm s i L b) (K : kq A F s s') (hA : A.contains 1134 = false) (hF : F.contains 51 = false) : PAm s' i L b := by
  obtain ⟨⟨c, h1, h2⟩, h3, h4⟩ := h
  exact ⟨⟨c, by rw [kq_i K 51 hF]; exact h1, h2⟩, h3, fun n y hn hy => mv_W_kq (h4 n y hn hy) K hA⟩
/-- one row more that is assumed -/
theorem PAm_add {A : List (List Nat)} {s : ps_S} {i b : Nat} {y : List Nat} (h : PAm s i A b) (h12 : 12 ≤ A.length) (hb : b < 10000) : PAm (ps_ui s 1131 51 ((ps_i s 1131 51) + 1)) i (if 12 < A.length then A else A ++ [y]) (b + 1) := by
  obtain ⟨⟨c, h1, h2, h3, h4⟩, h5, h6⟩ := h
  have hlen : (A ++ [y]).length = A.length + 1 := List.length_append
  refine ⟨⟨c + 1, by rw [ps_i_ui, if_pos ⟨rfl, rfl⟩]; exact xj1 h1 (by omega), by omega, fun z => ?_, fun _ => ?_⟩, ?_, fun n w hn hw => ?_⟩
  · split at z <;> omega
  · omega
  · split <;> omega
  · refine h6 n w hn ?_
    split at hw
    · exact hw
    · rw [List.getElem?_append_left (by omega)] at hw
      exact hw
section A248
variable {i tr : Nat} {A : List (List Nat)} {y : List Nat} {bd : Nat} {x1 x2 : Int32} {s0 : ps_S} {R : ps_S → Prop}
theorem fm_248_36 {n : Nat} {s : ps_S} (h1 : x1.toInt = i) (hi : i < 40) (h2 : x2.toInt = tr) (htr : tr + 41 ≤ 27400) (hds : tr + 41 ≤ 1640 + 492 * i ∨ 1640 + 492 * i + 492 ≤ tr) (W : mv_W s tr y) (hA : PAm s i A bd) (hbd : bd < 10000) (hn : ¬ y ∈ A.take 12) (k : ∀ s', PAm s' i (if 12 < A.length ∨ y ∈ A then A else A ++ [y]) (bd + 1) → KA i s s' → R s') : pl_At n 248 36 [(0, .ref 1131), (1, .int x1), (2, .int x2)] [] s (ps_rV R) := by
  cases n with
  | zero => exact pl_At_0
  | succ n =>
  have c12 : (12 : Int32).toInt = 12 := by decide
  obtain ⟨⟨c, e1, e2, e3, e4⟩, e5, e6⟩ := id hA
  refine pl_248_36 ⟨fun z => ?_, fun z => ?_⟩
  · have z := xle z
    have h12 : 12 ≤ A.length := by
      rcases Nat.lt_or_ge A.length 12 with u | u
      · have := e3 (by omega)
        omega
      · exact u
    have hm : (if 12 < A.length ∨ y ∈ A then A else A ++ [y]) = (if 12 < A.length then A else A ++ [y]) := by
      by_cases u : 12 < A.length
      · rw [if_pos (Or.inl u), if_pos u]
      · rw [if_neg (fun w => w.elim u (fun w => hn (by rw [List.take_of_length_le (by omega)]; exact w))), if_neg u]
    refine k _ ?_ ⟨kqi kq_refl rfl, fun _ _ => rfl⟩
    rw [hm]
    exact PAm_add hA h12 hbd
  · have z := xlt z
    have h12 : A.length < 12 := by
      rcases Nat.lt_or_ge A.length 12 with u | u
      · exact u
      · rcases Nat.lt_or_ge 12 A.length with v | v
        · have := e4 v
          omega
        · have := e3 v
          omega
    have ec := e3 (by omega)
    have hm : (if 12 < A.length ∨ y ∈ A then A else A ++ [y]) = A ++ [y] := by
      rw [if_neg (fun w => w.elim (by omega) (fun w => hn (by rw [List.take_of_length_le (by omega)]; exact w)))]
    rw [hm] at k
    refine fm_243 (i := i) (m := c) h1 (by omega) e1 (by omega) (fun v1 q1 => ?_)
    refine fm_224 (ta := tr) (tb := 1640 + 41 * (12 * i + c)) h2 q1 htr (by omega) (by omega) W (fun s2 W2 K2 P2 => ?_)
    have e12 : (ps_i s2 1131 51).toInt = c := by rw [kq_i K2 51 rfl]; exact e1
    have K3 : kq [] [51] s2 (ps_ui s2 1131 51 ((ps_i s2 1131 51) + 1)) := kqi kq_refl rfl
    have hlen : (A ++ [y]).length = A.length + 1 := List.length_append
    refine k _ ⟨⟨c + 1, by rw [ps_i_ui, if_pos ⟨rfl, rfl⟩]; exact xj1 e12 (by omega), by omega, fun _ => by omega, fun w => by omega⟩, by omega, fun m w hm2 hw => ?_⟩ ⟨kqt (kqt kq_refl K2 (by decide) (by decide)) K3 (by decide) (by decide), fun q hq => P2 q (by omega)⟩
    refine mv_W_kq (A := []) (F := [51]) ?_ K3 (by decide)
    rcases Nat.lt_or_ge m A.length with u | u
    · rw [List.getElem?_append_left u] at hw
      exact mv_W_po (e6 m w hm2 hw) P2 (by omega)
    · have hml := (List.getElem?_eq_some_iff.mp hw).1
      have em : m = c := by omega
      subst em
      rw [List.getElem?_append_right (by omega), show m - A.length = 0 from by omega] at hw
      cases hw
      exact W2
theorem fm_248 {n : Nat} (h1 : x1.toInt = i) (hi : i < 40) (h2 : x2.toInt = tr) (htr : tr + 41 ≤ 27400) (hds : tr + 41 ≤ 1640 + 492 * i ∨ 1640 + 492 * i + 492 ≤ tr) (W : mv_W s0 tr y) (hA : PAm s0 i A bd) (hbd : bd < 10000) (k : ∀ s', PAm s' i (if 12 < A.length ∨ y ∈ A then A else A ++ [y]) (bd + 1) → KA i s0 s' → R s') : pl_Cl n 248 [.ref 1131, .int x1, .int x2] s0 (ps_rV R) := by
  cases n with
  | zero => exact pl_At_0
  | succ n =>
  show pl_At (n + 1) 248 0 [(0, .ref 1131), (1, .int x1), (2, .int x2)] [] s0 (ps_rV R)
  have c12 : (12 : Int32).toInt = 12 := by decide
  obtain ⟨⟨c, e1, e2, e3, e4⟩, e5, e6⟩ := id hA
  have key : ∀ (n : Nat) {x3 : Int32} {m : Nat}, x3.toInt = m → (∀ j, j < m → (A.take 12)[j]? ≠ some y) → pl_At n 248 2 [(0, .ref 1131), (1, .int x1), (2, .int x2), (3, .int x3)] [] s0 (ps_rV R) := by
    intro n
    induction n with
    | zero => exact fun _ _ => pl_At_0
    | succ n ih =>
      intro x3 m h3 hj
      have out : (A.take 12).length ≤ m → pl_At n 248 36 [(0, .ref 1131), (1, .int x1), (2, .int x2)] [] s0 (ps_rV R) := fun hm => fm_248_36 h1 hi h2 htr hds W hA hbd (fun w => by
        obtain ⟨j, hj2⟩ := List.mem_iff_getElem?.mp w
        have := (List.getElem?_eq_some_iff.mp hj2).1
        exact hj j (by omega) hj2) k
      have hlt : (A.take 12).length = min 12 A.length := List.length_take
      refine pl_248_2 ⟨fun z => out ?_, fun z => ⟨fun z2 => out ?_, fun z2 => ?_⟩⟩
      · have z := xle z
        rcases Nat.lt_or_ge 12 A.length with u | u
        · have := e4 u
          omega
        · have := e3 u
          omega
      · have z2 := xle z2
        omega
      · have z := xlt z
        have z2 := xlt z2
        have hmA : m < A.length := by
          rcases Nat.lt_or_ge 12 A.length with u | u
          · omega
          · have := e3 u
            omega
        obtain ⟨w, hw⟩ : ∃ w, A[m]? = some w := ⟨_, List.getElem?_eq_getElem hmA⟩
        have W1 := e6 m w (by omega) hw
        refine fm_243 (i := i) (m := m) h1 (by omega) h3 (by omega) (fun v1 q1 => ?_)
        refine fm_222 (ta := 1640 + 41 * (12 * i + m)) (tb := tr) q1 (by omega) W1 h2 (by omega) W (fun e => ⟨fun u => absurd u (by decide), fun _ => ?_⟩) (fun e => ⟨fun _ => ?_, fun u => absurd rfl u⟩)
        · have hy : y ∈ A := by
            rw [← e]
            exact List.mem_of_getElem? hw
          rw [if_pos (Or.inr hy)] at k
          exact k s0 ⟨⟨c, e1, by omega, e3, e4⟩, e5, e6⟩ KA_refl
        · refine ih (xj1 h3 (by omega)) (fun j hj2 => ?_)
          rcases Nat.lt_or_ge j m with u | u
          · exact hj j u
          · rw [show j = m from by omega, List.getElem?_take, if_pos (by omega), hw]
            intro e2
            cases e2
            exact e rfl
  exact pl_248_0 (key n (m := 0) rfl (fun j hj => absurd hj (Nat.not_lt_zero _)))
end A248
section A249
variable {i j : Nat} {As : List (List Nat)} {oo L : List Nat} {x1 x2 x3 : Int32} {s0 : ps_S} {R : ps_S → Prop}
theorem fm_249_3 {A0 : List (List Nat)} {bd0 : Nat} (h1 : x1.toInt = i) (hi : i < 40) (h2 : x2.toInt = j) (hji : j < i) (hAs : As.length ≤ 12) (h57 : (ps_a s0 1157 j).toInt = As.length) (hrows : ∀ (n : Nat) (y : List Nat), As[n]? = some y → mv_W s0 (1640 + 41 * (12 * j + n)) y ∧ y ≠ []) (M0 : mk_M s0 L) (h3 : (x3.toInt = 0 ∧ oo = []) ∨ (x3.toInt ≠ 0 ∧ oo = L)) (hbd0 : bd0 < 5000) (k : ∀ s', PAm s' i (tq_ga oo A0 As) (bd0 + 12) → KA i s0 s' → R s') : ∀ (n : Nat) {s : ps_S} {x4 : Int32} {m : Nat} {A : List (List Nat)}, x4.toInt = m → m ≤ As.length → PAm s i A (bd0 + m) → tq_ga oo A0 As = tq_ga oo A (As.drop m) → KA i s0 s → pl_At n 249 3 [(0, .ref 1131), (1, .int x1), (2, .int x2), (3, .int x3), (4, .int x4)] [] s (ps_rV R)
  | 0, _, _, _, _, _, _, _, _, _ => pl_At_0
  | n + 1, s, x4, m, A, h4, hm, hA, hga, K => by
    have c0 : (0 : Int32).toInt = 0 := Int32.toInt_zero
    refine pl_249_3 ?_
    rw [xtn h2]
    intro b1
    have e57 : (ps_a s 1157 j).toInt = As.length := by rw [kq_a K.1 1157 (by decide)]; exact h57
    refine ⟨fun z => ?_, fun z => ?_⟩
    · have z := xle z
      rw [List.drop_of_length_le (by omega)] at hga
      obtain ⟨⟨c, p1, p2, p3⟩, p4⟩ := hA
      refine k s ?_ K
      rw [hga]
      exact ⟨⟨c, p1, by omega, p3⟩, p4⟩
    · have z := xlt z
      obtain ⟨y, hy⟩ : ∃ y, As[m]? = some y := ⟨_, List.getElem?_eq_getElem (by omega)⟩
      obtain ⟨Wy0, hyn⟩ := hrows m y hy
      have Wy : mv_W s (1640 + 41 * (12 * j + m)) y := mv_W_V Wy0 (fun q a b => K.2 q (by omega))
      have M : mk_M s L := mk_M_kq M0 K.1 (by decide) (by decide)
      rw [drop_g hy] at hga
      have hga : tq_ga oo A0 As = tq_ga oo (if 12 < A.length ∨ y = oo ∨ y ∈ A then A else A ++ [y]) (As.drop (m + 1)) := hga
      have at31 : y ≠ oo → ∀ {n' : Nat}, n' ≤ n → pl_At n' 249 31 [(0, .ref 1131), (1, .int x1), (2, .int x2), (3, .int x3), (4, .int x4)] [] s (ps_rV R) := fun hne {n'} hn' => by
        cases n' with
        | zero => exact pl_At_0
        | succ n' =>
        refine pl_249_31 (fm_243 (i := j) (m := m) h2 (by omega) h4 (by omega) (fun v1 q1 => ?_))
        refine fm_248 (i := i) (tr := 1640 + 41 * (12 * j + m)) h1 hi q1 (by omega) (by omega) Wy hA (by omega) (fun s2 P2 K2 => ?_)
        refine (fm_249_3 h1 hi h2 hji hAs h57 hrows M0 h3 hbd0 k n (xj1 h4 (by omega)) (by omega) (by rw [show bd0 + (m + 1) = bd0 + m + 1 from by omega]; exact P2) ?_ (KA_tr K K2)).le (by omega)
        rw [hga]
        by_cases u : 12 < A.length ∨ y ∈ A
        · rw [if_pos u, if_pos (u.elim Or.inl (fun u => Or.inr (Or.inr u)))]
        · rw [if_neg u, if_neg (fun v => v.elim (fun v => u (Or.inl v)) (fun v => v.elim hne (fun v => u (Or.inr v))))]
      refine ⟨fun z1 => at31 ?_ (Nat.le_refl _), fun z1 => ?_⟩
      · have z1 := xeq z1
        rcases h3 with ⟨-, e⟩ | ⟨e, -⟩
        · rw [e]
          exact hyn
        · omega
      · have z1 := xne z1
        rcases id h3 with ⟨e, -⟩ | ⟨-, e⟩
        · omega
        · refine fm_243 (i := j) (m := m) h2 (by omega) h4 (by omega) (fun v1 q1 => ?_)
          refine fm_230 (to := 1640 + 41 * (12 * j + m)) q1 (by omega) Wy M (fun u => ⟨fun _ => ?_, fun v => absurd v (by decide)⟩) (fun u => ⟨fun v => absurd rfl v, fun _ => at31 (by rw [e]; exact u) (Nat.le_refl _)⟩)
          rw [if_pos (Or.inr (Or.inl (by rw [e]; exact u)))] at hga
          obtain ⟨⟨c, p1, p2, p3⟩, p4⟩ := hA
          exact fm_249_3 h1 hi h2 hji hAs h57 hrows M0 h3 hbd0 k n (xj1 h4 (by omega)) (by omega) ⟨⟨c, p1, by omega, p3⟩, p4⟩ hga K
theorem fm_249 {n : Nat} {A : List (List Nat)} {bd : Nat} (h1 : x1.toInt = i) (hi : i < 40) (h2 : x2.toInt = j) (hji : j < i) (hAs : As.length ≤ 12) (h57 : (ps_a s0 1157 j).toInt = As.length) (hrows : ∀ (n : Nat) (y : List Nat), As[n]? = some y → mv_W s0 (1640 + 41 * (12 * j + n)) y ∧ y ≠ []) (M0 : mk_M s0 L) (h3 : (x3.toInt = 0 ∧ oo = []) ∨ (x3.toInt ≠ 0 ∧ oo = L)) (hbd : bd < 5000) (hA : PAm s0 i A bd) (k : ∀ s', PAm s' i (tq_ga oo A As) (bd + 12) → KA i s0 s' → R s') : pl_Cl n 249 [.ref 1131, .int x1, .int x2, .int x3] s0 (ps_rV R) := by
  cases n with
  | zero => exact pl_At_0
  | succ n =>
  show pl_At (n + 1) 249 0 [(0, .ref 1131), (1, .int x1), (2, .int x2), (3, .int x3)] [] s0 (ps_rV R)
  exact pl_249_0 (fm_249_3 h1 hi h2 hji hAs h57 hrows M0 h3 hbd k n (m := 0) rfl (Nat.zero_le _) hA rfl KA_refl)
end A249
end
section
set_option maxRecDepth 100000
/-! the reference: steps as they stand; plain steps taken -/
/-- kinds of steps -/
def kd (r : Nat) : Nat := if r = 6 then 15 else if r = 10 then 1 else if r = 11 then 0 else if r ≤ 24 then r - 10 else r - 9
/-- a step as it was read -/
def rkT (s : ps_S) (i : Nat) (st : tp_P) : Prop := (ps_a s 1152 i).toInt = kd st.1.1 ∧ (1 ≤ tp_nn st.1.1 → (ps_a s 1153 i).toInt = st.1.2.1) ∧ (2 ≤ tp_nn st.1.1 → (ps_a s 1154 i).toInt = st.1.2.2.1) ∧ (3 ≤ tp_nn st.1.1 → (ps_a s 1155 i).toInt = st.1.2.2.2) ∧ (st.1.1 = 10 → (ps_a s 1153 i).toInt = st.2.1.1) ∧ (tp_hx st.1.1 → (ps_a s 1156 i).toInt = st.2.1.2) ∧ (tp_ht st.1.1 → mv_W s (24108 + 41 * i) st.2.2.1) ∧ (tp_hf st.1.1 → mv_W s (22468 + 41 * i) st.2.2.2)
/-- what a step came to -/
def mpR (s : ps_S) (k : Nat) (R : tq_R) : Prop := mv_W s (41 * k) R.1 ∧ (ps_a s 1157 k).toInt = R.2.1.length ∧ R.2.1.length ≤ 12 ∧ (∀ (n : Nat) (y : List Nat), R.2.1[n]? = some y → mv_W s (1640 + 41 * (12 * k + n)) y) ∧ ps_a s 1158 k = R.2.2.1 ∧ ps_a s 1159 k = R.2.2.2.1 ∧ ps_b s 1160 k = R.2.2.2.2
def mpD (s : ps_S) (D : List tq_R) : Prop := D.length ≤ 40 ∧ ∀ (k : Nat) (R : tq_R), D[k]? = some R → mpR s k R
/-- theorems kept -/
def mSh (s : ps_S) (Θ : List tq_H) : Prop := (ps_i s 1131 54).toInt = Θ.length ∧ Θ.length ≤ 12 ∧ ∀ (k : Nat) (q : tq_H), Θ[k]? = some q → mv_W s (21320 + 41 * k) q.1 ∧ ps_a s 1161 k = q.2.1 ∧ ps_a s 1162 k = q.2.2.1
/-- all that a step rests on -/
def mpX (s : ps_S) (b : Nat) (h : tx_H) (Θ : List tq_H) (D : List tq_R) (st : tp_P) : Prop := (b < 2 ∧ (ps_i s 1131 21).toInt = b ∧ mv_H s b h) ∧ mSh s Θ ∧ mpD s D ∧ rkT s D.length st
/-- begun -/
def mpB (s : ps_S) (i : Nat) : Prop := (ps_i s 1131 50).toInt = 0 ∧ mk_M s [] ∧ PAm s i [] 0
/-- what a step may change as it is taken -/
def TKf (i : Nat) (s0 s : ps_S) : Prop := kq [1134, 1149, 1150] [34, 50, 51] s0 s ∧ mpA i s0 s
theorem TKf_refl {i : Nat} {s : ps_S} : TKf i s s := ⟨kq_refl, fun _ _ => rfl⟩
theorem TKf_q {i : Nat} {A F : List Nat} {s0 s s' : ps_S} (K : TKf i s0 s) (q : kq A F s s') (hA : A.all (fun a => [1134, 1149, 1150].contains a) = true) (hF : F.all (fun a => [34, 50, 51].contains a) = true) (h3 : A.contains 1134 = false) : TKf i s0 s' := ⟨kqt K.1 q hA hF, fun p hp => by rw [kq_a q 1134 h3]; exact K.2 p hp⟩
theorem TKf_A {i : Nat} {s0 s s' : ps_S} (K : TKf i s0 s) (q : KA i s s') : TKf i s0 s' := ⟨kqt K.1 q.1 (by decide) (by decide), fun p hp => (q.2 p hp).trans (K.2 p hp)⟩
theorem mv_W_TKf {i to : Nat} {l : List Nat} {s0 s : ps_S} (W : mv_W s0 to l) (K : TKf i s0 s) (hh : to + 41 ≤ 1640 + 492 * i ∨ 1640 + 492 * i + 492 ≤ to) : mv_W s to l := mv_W_V W (fun q a b => K.2 q (by omega))
theorem mSh_TKf {i : Nat} {s0 s : ps_S} {Θ : List tq_H} (H : mSh s0 Θ) (hi : i < 40) (K : TKf i s0 s) : mSh s Θ := by
  obtain ⟨y1, y2, y3⟩ := H
  refine ⟨by rw [kq_i K.1 54 (by decide)]; exact y1, y2, fun k q hk => ?_⟩
  obtain ⟨e1, e2, e3⟩ := y3 k q hk
  exact ⟨mv_W_TKf e1 K (by omega), by rw [kq_a K.1 1161 (by decide)]; exact e2, by rw [kq_a K.1 1162 (by decide)]; exact e3⟩
theorem mpD_TKf {s0 s : ps_S} {i : Nat} {D : List tq_R} (H : mpD s0 D) (hi : D.length ≤ i) (K : TKf i s0 s) : mpD s D := by
  obtain ⟨d1, d2⟩ := H
  refine ⟨d1, fun k R hk => ?_⟩
  obtain ⟨e1, e2, e3, e4, e5, e6, e7⟩ := d2 k R hk
  have hkl := (List.getElem?_eq_some_iff.mp hk).1
  refine ⟨mv_W_TKf e1 K (by omega), by rw [kq_a K.1 1157 (by decide)]; exact e2, e3, fun n y hy => mv_W_TKf (e4 n y hy) K ?_, by rw [kq_a K.1 1158 (by decide)]; exact e5, by rw [kq_a K.1 1159 (by decide)]; exact e6, by rw [kq_b K.1 1160 (by decide)]; exact e7⟩
  have := (List.getElem?_eq_some_iff.mp hy).1
  omega
theorem rkT_TKf {s0 s : ps_S} {i j : Nat} {st : tp_P} (H : rkT s0 j st) (hi : i < 40) (K : TKf i s0 s) : rkT s j st := by
  obtain ⟨t1, t2, t3, t4, t5, t6, t7, t8⟩ := H
  have e : ∀ r, [1134, 1149, 1150].contains r = false → ps_a s r = ps_a s0 r := fun r hr => kq_a K.1 r hr
  exact ⟨by rw [e 1152 (by decide)]; exact t1, by rw [e 1153 (by decide)]; exact t2, by rw [e 1154 (by decide)]; exact t3, by rw [e 1155 (by decide)]; exact t4, by rw [e 1153 (by decide)]; exact t5, by rw [e 1156 (by decide)]; exact t6, fun z => mv_W_TKf (t7 z) K (by omega), fun z => mv_W_TKf (t8 z) K (by omega)⟩
theorem mpX_TKf {s0 s : ps_S} {b : Nat} {h : tx_H} {Θ : List tq_H} {D : List tq_R} {st : tp_P} (X : mpX s0 b h Θ D st) (hi : D.length < 40) (K : TKf D.length s0 s) : mpX s b h Θ D st := by
  obtain ⟨⟨x1, x2, x3⟩, y, d, t⟩ := X
  refine ⟨⟨x1, by rw [kq_i K.1 21 (by decide)]; exact x2, mv_H_V x1 x3 (fun r hr => kq_a K.1 r ?_) (fun r hr => kq_b K.1 r ?_) (fun q a b => K.2 q (by omega))⟩, mSh_TKf y hi K, mpD_TKf d (Nat.le_refl _) K, rkT_TKf t hi K⟩
  · revert r
    decide
  · revert r
    decide
theorem PAm_mono {s : ps_S} {i b b' : Nat} {A : List (List Nat)} (h : PAm s i A b) (hb : b ≤ b') : PAm s i A b' := by
  obtain ⟨⟨c, h1, h2, h3⟩, h4⟩ := h
  exact ⟨⟨c, h1, Nat.le_trans h2 hb, h3⟩, h4⟩
/-- what a take leaves -/
def TKm (s0 s' : ps_S) (h : tx_H) (Θ : List tq_H) (D : List tq_R) (st : tp_P) : Prop := ∃ (L : List Nat) (A : List (List Nat)), (ps_i s' 1131 50).toInt = ((tq_mk h Θ D st).1 : Nat) ∧ mk_M s' L ∧ (L = [] ∨ ws (sg h.1) L [true]) ∧ L.length ≤ 2000 ∧ PAm s' D.length A 40 ∧ ((tq_mk h Θ D st).1 = 0 → L = (tq_mk h Θ D st).2.1 ∧ A = tq_as D st (tq_mk h Θ D st).2.2) ∧ TKf D.length s0 s'
theorem TKm_mk {s0 s' : ps_S} {h : tx_H} {Θ : List tq_H} {D : List tq_R} {st : tp_P} {c : Nat} {L' L : List Nat} {oo : List Nat × (List Nat × List Nat)} {A : List (List Nat)} (hm : tq_mk h Θ D st = (c, L', oo)) (h50 : (ps_i s' 1131 50).toInt = c) (M : mk_M s' L) (hw : L = [] ∨ ws (sg h.1) L [true]) (hl : L.length ≤ 2000) {bd : Nat} (P : PAm s' D.length A bd) (hbd : bd ≤ 40) (h0 : c = 0 → L = L' ∧ A = tq_as D st oo) (K : TKf D.length s0 s') : TKm s0 s' h Θ D st := ⟨L, A, by rw [hm]; exact h50, M, hw, hl, PAm_mono P hbd, by rw [hm]; exact h0, K⟩
/-- premises' rows -/
theorem mprem {s : ps_S} {b : Nat} {h : tx_H} {Θ : List tq_H} {D : List tq_R} {st : tp_P} (X : mpX s b h Θ D st) (hD : tq_GD h.1 D) {k : Nat} (hk : k < D.length) : (mv_W s (41 * k) (tq_r D k) ∧ ws (sg h.1) (tq_r D k) [true] ∧ tq_r D k ≠ [] ∧ (tq_r D k).length ≤ 40) ∧ (tq_a D k).length ≤ 12 ∧ (ps_a s 1157 k).toInt = (tq_a D k).length ∧ ∀ (n : Nat) (y : List Nat), (tq_a D k)[n]? = some y → mv_W s (1640 + 41 * (12 * k + n)) y ∧ y ≠ [] := by
  obtain ⟨R, e1, e2, e3, -⟩ := tq_at hk
  obtain ⟨r1, r2, r3, r4, -⟩ := X.2.2.1.2 k R e1
  obtain ⟨⟨g1, g2, -⟩, -, g4⟩ := hD k R e1
  rw [e2, e3]
  refine ⟨⟨r1, g1, fun z => ?_, g2⟩, r3, r2, fun n y hy => ⟨r4 n y hy, (g4 y (List.mem_of_getElem? hy)).1⟩⟩
  obtain ⟨c, t, e⟩ := ws_ne g1
  rw [z] at e
  cases e
theorem rowF {x1 : Int32} {i : Nat} (h1 : x1.toInt = i) (hi : i < 40) : ((22468 : Int32) + ((41 : Int32) * x1)).toInt = (22468 + 41 * i : Nat) := by
  have e : ((41 : Int32) * x1).toInt = (41 * i : Nat) := xImN (by decide) h1 (by omega)
  have c : (22468 : Int32).toInt = 22468 := by decide
  rw [xIa (by omega) (by omega), c, e]
  omega
theorem rowT {x1 : Int32} {i : Nat} (h1 : x1.toInt = i) (hi : i < 40) : ((24108 : Int32) + ((41 : Int32) * x1)).toInt = (24108 + 41 * i : Nat) := by
  have e : ((41 : Int32) * x1).toInt = (41 * i : Nat) := xImN (by decide) h1 (by omega)
  have c : (24108 : Int32).toInt = 24108 := by decide
  rw [xIa (by omega) (by omega), c, e]
  omega
theorem rowH {x1 : Int32} {i : Nat} (h1 : x1.toInt = i) (hi : i < 40) : ((21320 : Int32) + ((41 : Int32) * x1)).toInt = (21320 + 41 * i : Nat) := by
  have e : ((41 : Int32) * x1).toInt = (41 * i : Nat) := xImN (by decide) h1 (by omega)
  have c : (21320 : Int32).toInt = 21320 := by decide
  rw [xIa (by omega) (by omega), c, e]
  omega
theorem rowA {x1 x2 : Int32} {b i : Nat} (h1 : x1.toInt = b) (hb : b < 2) (h2 : x2.toInt = i) (hi : i < 8) : ((21812 : Int32) + ((41 : Int32) * (((8 : Int32) * x1) + x2))).toInt = (21812 + 41 * (8 * b + i) : Nat) := by
  have e1 : ((8 : Int32) * x1).toInt = (8 * b : Nat) := xImN (by decide) h1 (by omega)
  have e2 : (((8 : Int32) * x1) + x2).toInt = (8 * b + i : Nat) := by rw [xIa (by omega) (by omega), e1, h2]; omega
  have e3 : ((41 : Int32) * (((8 : Int32) * x1) + x2)).toInt = (41 * (8 * b + i) : Nat) := xImN (by decide) e2 (by omega)
  have c : (21812 : Int32).toInt = 21812 := by decide
  rw [xIa (by omega) (by omega), c, e3]
  omega
/-- what a premise assumes is gathered -/
theorem fm_249k {n b k bd : Nat} {h : tx_H} {Θ : List tq_H} {D : List tq_R} {st : tp_P} {oo L : List Nat} {A : List (List Nat)} {x1 x2 x3 : Int32} {s0 s : ps_S} {R : ps_S → Prop} (X : mpX s0 b h Θ D st) (hD : tq_GD h.1 D) (hi : D.length < 40) (K : TKf D.length s0 s) (h1 : x1.toInt = D.length) (hk : k < D.length) (h2 : x2.toInt = k) (M : mk_M s L) (h3 : (x3.toInt = 0 ∧ oo = []) ∨ (x3.toInt ≠ 0 ∧ oo = L)) (hbd : bd < 5000) (P : PAm s D.length A bd) (kk : ∀ s', PAm s' D.length (tq_ga oo A (tq_a D k)) (bd + 12) → KA D.length s s' → R s') : pl_Cl n 249 [.ref 1131, .int x1, .int x2, .int x3] s (ps_rV R) := by
  obtain ⟨-, a1, a2, a3⟩ := mprem (mpX_TKf X hi K) hD hk
  exact fm_249 h1 hi h2 hk a1 a2 a3 M h3 hbd P kk

-- ProofBenchModel.premises(I)I
theorem pl_234_0 {n : Nat} {x0 : Int32} {s : ps_S} {Q : Option Value → ps_S → Prop} (h :
  (x0 = 0 →
    Q (some (.int 0)) s) ∧
  (x0 ≠ 0 →
    (x0 = 1 →
    Q (some (.int 0)) s) ∧
  (x0 ≠ 1 →
    (x0 = 2 →
    Q (some (.int 1)) s) ∧
  (x0 ≠ 2 →
    (x0 = 3 →
    Q (some (.int 2)) s) ∧
  (x0 ≠ 3 →
    (x0 = 4 →
    Q (some (.int 1)) s) ∧
  (x0 ≠ 4 →
    (x0 = 5 →
    Q (some (.int 1)) s) ∧
  (x0 ≠ 5 →
    (x0 = 6 →
    Q (some (.int 1)) s) ∧
  (x0 ≠ 6 →
    (x0 = 7 →
    Q (some (.int 1)) s) ∧
  (x0 ≠ 7 →
    (x0 = 8 →
    Q (some (.int 3)) s) ∧
  (x0 ≠ 8 →
    (x0 = 9 →
    Q (some (.int 2)) s) ∧
  (x0 ≠ 9 →
    (x0 = 10 →
    Q (some (.int 1)) s) ∧
  (x0 ≠ 10 →
    (x0 = 11 →
    Q (some (.int 1)) s) ∧
  (x0 ≠ 11 →
    (x0 = 12 →
    Q (some (.int 1)) s) ∧
  (x0 ≠ 12 →
    (x0 = 13 →
    Q (some (.int 1)) s) ∧
  (x0 ≠ 13 →
    (x0 = 14 →
    Q (some (.int 2)) s) ∧
  (x0 ≠ 14 →
    (x0 = 15 →
    Q (some (.int 0)) s) ∧
  (x0 ≠ 15 →
    (x0 = 16 →
    Q (some (.int 2)) s) ∧
  (x0 ≠ 16 →
    Q (some (.int 1)) s)))))))))))))))))) : pl_At (n + 1) 234 0 [(0, .int x0)] [] s Q :=
  pl_wp_at (stops := []) (f := 40) h rfl

/-- how many premises -/
theorem fm_234 {n r : Nat} {x0 : Int32} {s : ps_S} {R : Int32 → ps_S → Prop} (h0 : x0.toInt = kd r) (hr : tp_ok r) (k : ∀ v : Int32, v.toInt = tp_nn r → R v s) : pl_Cl n 234 [.int x0] s (ps_rI R) := by
  cases n with
  | zero => exact pl_At_0
  | succ n =>
  show pl_At (n + 1) 234 0 [(0, .int x0)] [] s (ps_rI R)
  rcases tp_ok_c hr with rfl | rfl | rfl | rfl | rfl | rfl | rfl | rfl | rfl | rfl | rfl | rfl | rfl | rfl | rfl | rfl | rfl | rfl | rfl
  · have er : x0.toInt = (15 : Int) := h0.trans rfl
    refine pl_234_0 ?_
    refine ⟨fun z => absurd (show x0.toInt = (0 : Int) from xeq z) (by omega), fun _ => ?_⟩
    refine ⟨fun z => absurd (show x0.toInt = (1 : Int) from xeq z) (by omega), fun _ => ?_⟩
    refine ⟨fun z => absurd (show x0.toInt = (2 : Int) from xeq z) (by omega), fun _ => ?_⟩
    refine ⟨fun z => absurd (show x0.toInt = (3 : Int) from xeq z) (by omega), fun _ => ?_⟩
    refine ⟨fun z => absurd (show x0.toInt = (4 : Int) from xeq z) (by omega), fun _ => ?_⟩
    refine ⟨fun z => absurd (show x0.toInt = (5 : Int) from xeq z) (by omega), fun _ => ?_⟩
    refine ⟨fun z => absurd (show x0.toInt = (6 : Int) from xeq z) (by omega), fun _ => ?_⟩
    refine ⟨fun z => absurd (show x0.toInt = (7 : Int) from xeq z) (by omega), fun _ => ?_⟩
    refine ⟨fun z => absurd (show x0.toInt = (8 : Int) from xeq z) (by omega), fun _ => ?_⟩
    refine ⟨fun z => absurd (show x0.toInt = (9 : Int) from xeq z) (by omega), fun _ => ?_⟩
    refine ⟨fun z => absurd (show x0.toInt = (10 : Int) from xeq z) (by omega), fun _ => ?_⟩
    refine ⟨fun z => absurd (show x0.toInt = (11 : Int) from xeq z) (by omega), fun _ => ?_⟩
    refine ⟨fun z => absurd (show x0.toInt = (12 : Int) from xeq z) (by omega), fun _ => ?_⟩
    refine ⟨fun z => absurd (show x0.toInt = (13 : Int) from xeq z) (by omega), fun _ => ?_⟩
    refine ⟨fun z => absurd (show x0.toInt = (14 : Int) from xeq z) (by omega), fun _ => ?_⟩
    refine ⟨fun _ => ?_, fun z => absurd (show x0.toInt = (15 : Int) from er) (xne z)⟩
    exact k _ rfl
  · have er : x0.toInt = (1 : Int) := h0.trans rfl
    refine pl_234_0 ?_
    refine ⟨fun z => absurd (show x0.toInt = (0 : Int) from xeq z) (by omega), fun _ => ?_⟩
    refine ⟨fun _ => ?_, fun z => absurd (show x0.toInt = (1 : Int) from er) (xne z)⟩
    exact k _ rfl
  · have er : x0.toInt = (0 : Int) := h0.trans rfl
    refine pl_234_0 ?_
    refine ⟨fun _ => ?_, fun z => absurd (show x0.toInt = (0 : Int) from er) (xne z)⟩
    exact k _ rfl
  · have er : x0.toInt = (2 : Int) := h0.trans rfl
    refine pl_234_0 ?_
    refine ⟨fun z => absurd (show x0.toInt = (0 : Int) from xeq z) (by omega), fun _ => ?_⟩
    refine ⟨fun z => absurd (show x0.toInt = (1 : Int) from xeq z) (by omega), fun _ => ?_⟩
    refine ⟨fun _ => ?_, fun z => absurd (show x0.toInt = (2 : Int) from er) (xne z)⟩
    exact k _ rfl
  · have er : x0.toInt = (3 : Int) := h0.trans rfl
    refine pl_234_0 ?_
    refine ⟨fun z => absurd (show x0.toInt = (0 : Int) from xeq z) (by omega), fun _ => ?_⟩
    refine ⟨fun z => absurd (show x0.toInt = (1 : Int) from xeq z) (by omega), fun _ => ?_⟩
    refine ⟨fun z => absurd (show x0.toInt = (2 : Int) from xeq z) (by omega), fun _ => ?_⟩
    refine ⟨fun _ => ?_, fun z => absurd (show x0.toInt = (3 : Int) from er) (xne z)⟩
    exact k _ rfl
  · have er : x0.toInt = (4 : Int) := h0.trans rfl
    refine pl_234_0 ?_
    refine ⟨fun z => absurd (show x0.toInt = (0 : Int) from xeq z) (by omega), fun _ => ?_⟩
    refine ⟨fun z => absurd (show x0.toInt = (1 : Int) from xeq z) (by omega), fun _ => ?_⟩
    refine ⟨fun z => absurd (show x0.toInt = (2 : Int) from xeq z) (by omega), fun _ => ?_⟩
    refine ⟨fun z => absurd (show x0.toInt = (3 : Int) from xeq z) (by omega), fun _ => ?_⟩
    refine ⟨fun _ => ?_, fun z => absurd (show x0.toInt = (4 : Int) from er) (xne z)⟩
    exact k _ rfl
  · have er : x0.toInt = (5 : Int) := h0.trans rfl
    refine pl_234_0 ?_
    refine ⟨fun z => absurd (show x0.toInt = (0 : Int) from xeq z) (by omega), fun _ => ?_⟩
    refine ⟨fun z => absurd (show x0.toInt = (1 : Int) from xeq z) (by omega), fun _ => ?_⟩
    refine ⟨fun z => absurd (show x0.toInt = (2 : Int) from xeq z) (by omega), fun _ => ?_⟩
    refine ⟨fun z => absurd (show x0.toInt = (3 : Int) from xeq z) (by omega), fun _ => ?_⟩
    refine ⟨fun z => absurd (show x0.toInt = (4 : Int) from xeq z) (by omega), fun _ => ?_⟩
    refine ⟨fun _ => ?_, fun z => absurd (show x0.toInt = (5 : Int) from er) (xne z)⟩
    exact k _ rfl
  · have er : x0.toInt = (6 : Int) := h0.trans rfl
    refine pl_234_0 ?_
    refine ⟨fun z => absurd (show x0.toInt = (0 : Int) from xeq z) (by omega), fun _ => ?_⟩
    refine ⟨fun z => absurd (show x0.toInt = (1 : Int) from xeq z) (by omega), fun _ => ?_⟩
    refine ⟨fun z => absurd (show x0.toInt = (2 : Int) from xeq z) (by omega), fun _ => ?_⟩
    refine ⟨fun z => absurd (show x0.toInt = (3 : Int) from xeq z) (by omega), fun _ => ?_⟩
    refine ⟨fun z => absurd (show x0.toInt = (4 : Int) from xeq z) (by omega), fun _ => ?_⟩
    refine ⟨fun z => absurd (show x0.toInt = (5 : Int) from xeq z) (by omega), fun _ => ?_⟩
    refine ⟨fun _ => ?_, fun z => absurd (show x0.toInt = (6 : Int) from er) (xne z)⟩
    exact k _ rfl
  · have er : x0.toInt = (7 : Int) := h0.trans rfl
    refine pl_234_0 ?_
    refine ⟨fun z => absurd (show x0.toInt = (0 : Int) from xeq z) (by omega), fun _ => ?_⟩
    refine ⟨fun z => absurd (show x0.toInt = (1 : Int) from xeq z) (by omega), fun _ => ?_⟩
    refine ⟨fun z => absurd (show x0.toInt = (2 : Int) from xeq z) (by omega), fun _ => ?_⟩
    refine ⟨fun z => absurd (show x0.toInt = (3 : Int) from xeq z) (by omega), fun _ => ?_⟩
    refine ⟨fun z => absurd (show x0.toInt = (4 : Int) from xeq z) (by omega), fun _ => ?_⟩
    refine ⟨fun z => absurd (show x0.toInt = (5 : Int) from xeq z) (by omega), fun _ => ?_⟩
    refine ⟨fun z => absurd (show x0.toInt = (6 : Int) from xeq z) (by omega), fun _ => ?_⟩
    refine ⟨fun _ => ?_, fun z => absurd (show x0.toInt = (7 : Int) from er) (xne z)⟩
    exact k _ rfl
  · have er : x0.toInt = (8 : Int) := h0.trans rfl
    refine pl_234_0 ?_
    refine ⟨fun z => absurd (show x0.toInt = (0 : Int) from xeq z) (by omega), fun _ => ?_⟩
    refine ⟨fun z => absurd (show x0.toInt = (1 : Int) from xeq z) (by omega), fun _ => ?_⟩
    refine ⟨fun z => absurd (show x0.toInt = (2 : Int) from xeq z) (by omega), fun _ => ?_⟩
    refine ⟨fun z => absurd (show x0.toInt = (3 : Int) from xeq z) (by omega), fun _ => ?_⟩
    refine ⟨fun z => absurd (show x0.toInt = (4 : Int) from xeq z) (by omega), fun _ => ?_⟩
    refine ⟨fun z => absurd (show x0.toInt = (5 : Int) from xeq z) (by omega), fun _ => ?_⟩
    refine ⟨fun z => absurd (show x0.toInt = (6 : Int) from xeq z) (by omega), fun _ => ?_⟩
    refine ⟨fun z => absurd (show x0.toInt = (7 : Int) from xeq z) (by omega), fun _ => ?_⟩
    refine ⟨fun _ => ?_, fun z => absurd (show x0.toInt = (8 : Int) from er) (xne z)⟩
    exact k _ rfl
  · have er : x0.toInt = (9 : Int) := h0.trans rfl
    refine pl_234_0 ?_
    refine ⟨fun z => absurd (show x0.toInt = (0 : Int) from xeq z) (by omega), fun _ => ?_⟩
    refine ⟨fun z => absurd (show x0.toInt = (1 : Int) from xeq z) (by omega), fun _ => ?_⟩
    refine ⟨fun z => absurd (show x0.toInt = (2 : Int) from xeq z) (by omega), fun _ => ?_⟩
    refine ⟨fun z => absurd (show x0.toInt = (3 : Int) from xeq z) (by omega), fun _ => ?_⟩
    refine ⟨fun z => absurd (show x0.toInt = (4 : Int) from xeq z) (by omega), fun _ => ?_⟩
    refine ⟨fun z => absurd (show x0.toInt = (5 : Int) from xeq z) (by omega), fun _ => ?_⟩
    refine ⟨fun z => absurd (show x0.toInt = (6 : Int) from xeq z) (by omega), fun _ => ?_⟩
    refine ⟨fun z => absurd (show x0.toInt = (7 : Int) from xeq z) (by omega), fun _ => ?_⟩
    refine ⟨fun z => absurd (show x0.toInt = (8 : Int) from xeq z) (by omega), fun _ => ?_⟩
    refine ⟨fun _ => ?_, fun z => absurd (show x0.toInt = (9 : Int) from er) (xne z)⟩
    exact k _ rfl
  · have er : x0.toInt = (10 : Int) := h0.trans rfl
    refine pl_234_0 ?_
    refine ⟨fun z => absurd (show x0.toInt = (0 : Int) from xeq z) (by omega), fun _ => ?_⟩
    refine ⟨fun z => absurd (show x0.toInt = (1 : Int) from xeq z) (by omega), fun _ => ?_⟩
    refine ⟨fun z => absurd (show x0.toInt = (2 : Int) from xeq z) (by omega), fun _ => ?_⟩
    refine ⟨fun z => absurd (show x0.toInt = (3 : Int) from xeq z) (by omega), fun _ => ?_⟩
    refine ⟨fun z => absurd (show x0.toInt = (4 : Int) from xeq z) (by omega), fun _ => ?_⟩
    refine ⟨fun z => absurd (show x0.toInt = (5 : Int) from xeq z) (by omega), fun _ => ?_⟩
    refine ⟨fun z => absurd (show x0.toInt = (6 : Int) from xeq z) (by omega), fun _ => ?_⟩
    refine ⟨fun z => absurd (show x0.toInt = (7 : Int) from xeq z) (by omega), fun _ => ?_⟩
    refine ⟨fun z => absurd (show x0.toInt = (8 : Int) from xeq z) (by omega), fun _ => ?_⟩
    refine ⟨fun z => absurd (show x0.toInt = (9 : Int) from xeq z) (by omega), fun _ => ?_⟩
    refine ⟨fun _ => ?_, fun z => absurd (show x0.toInt = (10 : Int) from er) (xne z)⟩
    exact k _ rfl
  · have er : x0.toInt = (11 : Int) := h0.trans rfl
    refine pl_234_0 ?_
    refine ⟨fun z => absurd (show x0.toInt = (0 : Int) from xeq z) (by omega), fun _ => ?_⟩
    refine ⟨fun z => absurd (show x0.toInt = (1 : Int) from xeq z) (by omega), fun _ => ?_⟩
    refine ⟨fun z => absurd (show x0.toInt = (2 : Int) from xeq z) (by omega), fun _ => ?_⟩
    refine ⟨fun z => absurd (show x0.toInt = (3 : Int) from xeq z) (by omega), fun _ => ?_⟩
    refine ⟨fun z => absurd (show x0.toInt = (4 : Int) from xeq z) (by omega), fun _ => ?_⟩
    refine ⟨fun z => absurd (show x0.toInt = (5 : Int) from xeq z) (by omega), fun _ => ?_⟩
    refine ⟨fun z => absurd (show x0.toInt = (6 : Int) from xeq z) (by omega), fun _ => ?_⟩
    refine ⟨fun z => absurd (show x0.toInt = (7 : Int) from xeq z) (by omega), fun _ => ?_⟩
    refine ⟨fun z => absurd (show x0.toInt = (8 : Int) from xeq z) (by omega), fun _ => ?_⟩
    refine ⟨fun z => absurd (show x0.toInt = (9 : Int) from xeq z) (by omega), fun _ => ?_⟩
    refine ⟨fun z => absurd (show x0.toInt = (10 : Int) from xeq z) (by omega), fun _ => ?_⟩
    refine ⟨fun _ => ?_, fun z => absurd (show x0.toInt = (11 : Int) from er) (xne z)⟩
    exact k _ rfl
  · have er : x0.toInt = (12 : Int) := h0.trans rfl
    refine pl_234_0 ?_
    refine ⟨fun z => absurd (show x0.toInt = (0 : Int) from xeq z) (by omega), fun _ => ?_⟩
    refine ⟨fun z => absurd (show x0.toInt = (1 : Int) from xeq z) (by omega), fun _ => ?_⟩
    refine ⟨fun z => absurd (show x0.toInt = (2 : Int) from xeq z) (by omega), fun _ => ?_⟩
    refine ⟨fun z => absurd (show x0.toInt = (3 : Int) from xeq z) (by omega), fun _ => ?_⟩
    refine ⟨fun z => absurd (show x0.toInt = (4 : Int) from xeq z) (by omega), fun _ => ?_⟩
    refine ⟨fun z => absurd (show x0.toInt = (5 : Int) from xeq z) (by omega), fun _ => ?_⟩
    refine ⟨fun z => absurd (show x0.toInt = (6 : Int) from xeq z) (by omega), fun _ => ?_⟩
    refine ⟨fun z => absurd (show x0.toInt = (7 : Int) from xeq z) (by omega), fun _ => ?_⟩
    refine ⟨fun z => absurd (show x0.toInt = (8 : Int) from xeq z) (by omega), fun _ => ?_⟩
    refine ⟨fun z => absurd (show x0.toInt = (9 : Int) from xeq z) (by omega), fun _ => ?_⟩
    refine ⟨fun z => absurd (show x0.toInt = (10 : Int) from xeq z) (by omega), fun _ => ?_⟩
    refine ⟨fun z => absurd (show x0.toInt = (11 : Int) from xeq z) (by omega), fun _ => ?_⟩
    refine ⟨fun _ => ?_, fun z => absurd (show x0.toInt = (12 : Int) from er) (xne z)⟩
    exact k _ rfl
  · have er : x0.toInt = (13 : Int) := h0.trans rfl
    refine pl_234_0 ?_
    refine ⟨fun z => absurd (show x0.toInt = (0 : Int) from xeq z) (by omega), fun _ => ?_⟩
    refine ⟨fun z => absurd (show x0.toInt = (1 : Int) from xeq z) (by omega), fun _ => ?_⟩
    refine ⟨fun z => absurd (show x0.toInt = (2 : Int) from xeq z) (by omega), fun _ => ?_⟩
    refine ⟨fun z => absurd (show x0.toInt = (3 : Int) from xeq z) (by omega), fun _ => ?_⟩
    refine ⟨fun z => absurd (show x0.toInt = (4 : Int) from xeq z) (by omega), fun _ => ?_⟩
    refine ⟨fun z => absurd (show x0.toInt = (5 : Int) from xeq z) (by omega), fun _ => ?_⟩
    refine ⟨fun z => absurd (show x0.toInt = (6 : Int) from xeq z) (by omega), fun _ => ?_⟩
    refine ⟨fun z => absurd (show x0.toInt = (7 : Int) from xeq z) (by omega), fun _ => ?_⟩
    refine ⟨fun z => absurd (show x0.toInt = (8 : Int) from xeq z) (by omega), fun _ => ?_⟩
    refine ⟨fun z => absurd (show x0.toInt = (9 : Int) from xeq z) (by omega), fun _ => ?_⟩
    refine ⟨fun z => absurd (show x0.toInt = (10 : Int) from xeq z) (by omega), fun _ => ?_⟩
    refine ⟨fun z => absurd (show x0.toInt = (11 : Int) from xeq z) (by omega), fun _ => ?_⟩
    refine ⟨fun z => absurd (show x0.toInt = (12 : Int) from xeq z) (by omega), fun _ => ?_⟩
    refine ⟨fun _ => ?_, fun z => absurd (show x0.toInt = (13 : Int) from er) (xne z)⟩
    exact k _ rfl
  · have er : x0.toInt = (14 : Int) := h0.trans rfl
    refine pl_234_0 ?_
    refine ⟨fun z => absurd (show x0.toInt = (0 : Int) from xeq z) (by omega), fun _ => ?_⟩
    refine ⟨fun z => absurd (show x0.toInt = (1 : Int) from xeq z) (by omega), fun _ => ?_⟩
    refine ⟨fun z => absurd (show x0.toInt = (2 : Int) from xeq z) (by omega), fun _ => ?_⟩
    refine ⟨fun z => absurd (show x0.toInt = (3 : Int) from xeq z) (by omega), fun _ => ?_⟩
    refine ⟨fun z => absurd (show x0.toInt = (4 : Int) from xeq z) (by omega), fun _ => ?_⟩
    refine ⟨fun z => absurd (show x0.toInt = (5 : Int) from xeq z) (by omega), fun _ => ?_⟩
    refine ⟨fun z => absurd (show x0.toInt = (6 : Int) from xeq z) (by omega), fun _ => ?_⟩
    refine ⟨fun z => absurd (show x0.toInt = (7 : Int) from xeq z) (by omega), fun _ => ?_⟩
    refine ⟨fun z => absurd (show x0.toInt = (8 : Int) from xeq z) (by omega), fun _ => ?_⟩
    refine ⟨fun z => absurd (show x0.toInt = (9 : Int) from xeq z) (by omega), fun _ => ?_⟩
    refine ⟨fun z => absurd (show x0.toInt = (10 : Int) from xeq z) (by omega), fun _ => ?_⟩
    refine ⟨fun z => absurd (show x0.toInt = (11 : Int) from xeq z) (by omega), fun _ => ?_⟩
    refine ⟨fun z => absurd (show x0.toInt = (12 : Int) from xeq z) (by omega), fun _ => ?_⟩
    refine ⟨fun z => absurd (show x0.toInt = (13 : Int) from xeq z) (by omega), fun _ => ?_⟩
    refine ⟨fun _ => ?_, fun z => absurd (show x0.toInt = (14 : Int) from er) (xne z)⟩
    exact k _ rfl
  · have er : x0.toInt = (16 : Int) := h0.trans rfl
    refine pl_234_0 ?_
    refine ⟨fun z => absurd (show x0.toInt = (0 : Int) from xeq z) (by omega), fun _ => ?_⟩
    refine ⟨fun z => absurd (show x0.toInt = (1 : Int) from xeq z) (by omega), fun _ => ?_⟩
    refine ⟨fun z => absurd (show x0.toInt = (2 : Int) from xeq z) (by omega), fun _ => ?_⟩
    refine ⟨fun z => absurd (show x0.toInt = (3 : Int) from xeq z) (by omega), fun _ => ?_⟩
    refine ⟨fun z => absurd (show x0.toInt = (4 : Int) from xeq z) (by omega), fun _ => ?_⟩
    refine ⟨fun z => absurd (show x0.toInt = (5 : Int) from xeq z) (by omega), fun _ => ?_⟩
    refine ⟨fun z => absurd (show x0.toInt = (6 : Int) from xeq z) (by omega), fun _ => ?_⟩
    refine ⟨fun z => absurd (show x0.toInt = (7 : Int) from xeq z) (by omega), fun _ => ?_⟩
    refine ⟨fun z => absurd (show x0.toInt = (8 : Int) from xeq z) (by omega), fun _ => ?_⟩
    refine ⟨fun z => absurd (show x0.toInt = (9 : Int) from xeq z) (by omega), fun _ => ?_⟩
    refine ⟨fun z => absurd (show x0.toInt = (10 : Int) from xeq z) (by omega), fun _ => ?_⟩
    refine ⟨fun z => absurd (show x0.toInt = (11 : Int) from xeq z) (by omega), fun _ => ?_⟩
    refine ⟨fun z => absurd (show x0.toInt = (12 : Int) from xeq z) (by omega), fun _ => ?_⟩
    refine ⟨fun z => absurd (show x0.toInt = (13 : Int) from xeq z) (by omega), fun _ => ?_⟩
    refine ⟨fun z => absurd (show x0.toInt = (14 : Int) from xeq z) (by omega), fun _ => ?_⟩
    refine ⟨fun z => absurd (show x0.toInt = (15 : Int) from xeq z) (by omega), fun _ => ?_⟩
    refine ⟨fun _ => ?_, fun z => absurd (show x0.toInt = (16 : Int) from er) (xne z)⟩
    exact k _ rfl
  · have er : x0.toInt = (17 : Int) := h0.trans rfl
    refine pl_234_0 ?_
    refine ⟨fun z => absurd (show x0.toInt = (0 : Int) from xeq z) (by omega), fun _ => ?_⟩
    refine ⟨fun z => absurd (show x0.toInt = (1 : Int) from xeq z) (by omega), fun _ => ?_⟩
    refine ⟨fun z => absurd (show x0.toInt = (2 : Int) from xeq z) (by omega), fun _ => ?_⟩
    refine ⟨fun z => absurd (show x0.toInt = (3 : Int) from xeq z) (by omega), fun _ => ?_⟩
    refine ⟨fun z => absurd (show x0.toInt = (4 : Int) from xeq z) (by omega), fun _ => ?_⟩
    refine ⟨fun z => absurd (show x0.toInt = (5 : Int) from xeq z) (by omega), fun _ => ?_⟩
    refine ⟨fun z => absurd (show x0.toInt = (6 : Int) from xeq z) (by omega), fun _ => ?_⟩
    refine ⟨fun z => absurd (show x0.toInt = (7 : Int) from xeq z) (by omega), fun _ => ?_⟩
    refine ⟨fun z => absurd (show x0.toInt = (8 : Int) from xeq z) (by omega), fun _ => ?_⟩
    refine ⟨fun z => absurd (show x0.toInt = (9 : Int) from xeq z) (by omega), fun _ => ?_⟩
    refine ⟨fun z => absurd (show x0.toInt = (10 : Int) from xeq z) (by omega), fun _ => ?_⟩
    refine ⟨fun z => absurd (show x0.toInt = (11 : Int) from xeq z) (by omega), fun _ => ?_⟩
    refine ⟨fun z => absurd (show x0.toInt = (12 : Int) from xeq z) (by omega), fun _ => ?_⟩
    refine ⟨fun z => absurd (show x0.toInt = (13 : Int) from xeq z) (by omega), fun _ => ?_⟩
    refine ⟨fun z => absurd (show x0.toInt = (14 : Int) from xeq z) (by omega), fun _ => ?_⟩
    refine ⟨fun z => absurd (show x0.toInt = (15 : Int) from xeq z) (by omega), fun _ => ?_⟩
    refine ⟨fun z => absurd (show x0.toInt = (16 : Int) from xeq z) (by omega), fun _ => ?_⟩
    exact k _ rfl
  · have er : x0.toInt = (18 : Int) := h0.trans rfl
    refine pl_234_0 ?_
    refine ⟨fun z => absurd (show x0.toInt = (0 : Int) from xeq z) (by omega), fun _ => ?_⟩
    refine ⟨fun z => absurd (show x0.toInt = (1 : Int) from xeq z) (by omega), fun _ => ?_⟩
    refine ⟨fun z => absurd (show x0.toInt = (2 : Int) from xeq z) (by omega), fun _ => ?_⟩
    refine ⟨fun z => absurd (show x0.toInt = (3 : Int) from xeq z) (by omega), fun _ => ?_⟩
    refine ⟨fun z => absurd (show x0.toInt = (4 : Int) from xeq z) (by omega), fun _ => ?_⟩
    refine ⟨fun z => absurd (show x0.toInt = (5 : Int) from xeq z) (by omega), fun _ => ?_⟩
    refine ⟨fun z => absurd (show x0.toInt = (6 : Int) from xeq z) (by omega), fun _ => ?_⟩
    refine ⟨fun z => absurd (show x0.toInt = (7 : Int) from xeq z) (by omega), fun _ => ?_⟩
    refine ⟨fun z => absurd (show x0.toInt = (8 : Int) from xeq z) (by omega), fun _ => ?_⟩
    refine ⟨fun z => absurd (show x0.toInt = (9 : Int) from xeq z) (by omega), fun _ => ?_⟩
    refine ⟨fun z => absurd (show x0.toInt = (10 : Int) from xeq z) (by omega), fun _ => ?_⟩
    refine ⟨fun z => absurd (show x0.toInt = (11 : Int) from xeq z) (by omega), fun _ => ?_⟩
    refine ⟨fun z => absurd (show x0.toInt = (12 : Int) from xeq z) (by omega), fun _ => ?_⟩
    refine ⟨fun z => absurd (show x0.toInt = (13 : Int) from xeq z) (by omega), fun _ => ?_⟩
    refine ⟨fun z => absurd (show x0.toInt = (14 : Int) from xeq z) (by omega), fun _ => ?_⟩
    refine ⟨fun z => absurd (show x0.toInt = (15 : Int) from xeq z) (by omega), fun _ => ?_⟩
    refine ⟨fun z => absurd (show x0.toInt = (16 : Int) from xeq z) (by omega), fun _ => ?_⟩
    exact k _ rfl

-- ProofBenchModel.havePremises(I)Z
theorem pl_250_0 {n : Nat} {x1 : Int32} {s : ps_S} {Q : Option Value → ps_S → Prop} (h :
  (pm_in x1 40 = true →
    pl_Cl n 234 [.int (ps_a s 1152 (Int32.toNatClampNeg x1))] s (ps_rI (fun v1 s1 =>
      (pm_in x1 40 = true →
        ((ps_a s1 1152 (Int32.toNatClampNeg x1)) ≠ 2 →
          (v1 < 1 →
            pl_At n 250 54 [(0, .ref 1131), (1, .int x1), (2, .int v1)] [] s1 Q) ∧
          (1 ≤ v1 →
            (pm_in x1 40 = true →
              (x1 ≤ (ps_a s1 1153 (Int32.toNatClampNeg x1)) →
                Q (some (.int 0)) s1) ∧
              ((ps_a s1 1153 (Int32.toNatClampNeg x1)) < x1 →
                pl_At n 250 54 [(0, .ref 1131), (1, .int x1), (2, .int v1)] [] s1 Q)))) ∧
        ((ps_a s1 1152 (Int32.toNatClampNeg x1)) = 2 →
          (pm_in x1 40 = true →
            ((ps_i s1 1131 54) ≤ (ps_a s1 1153 (Int32.toNatClampNeg x1)) →
              Q (some (.int 0)) s1) ∧
            ((ps_a s1 1153 (Int32.toNatClampNeg x1)) < (ps_i s1 1131 54) →
              Q (some (.int 1)) s1)))))))) : pl_At (n + 1) 250 0 [(0, .ref 1131), (1, .int x1)] [] s Q :=
  pl_wp_at (stops := [(54, [0, 1, 2]), (69, [0, 1, 2])]) (f := 37) h rfl

theorem pl_250_54 {n : Nat} {x1 : Int32} {x2 : Int32} {s : ps_S} {Q : Option Value → ps_S → Prop} (h :
  (x2 < 2 →
    pl_At n 250 69 [(0, .ref 1131), (1, .int x1), (2, .int x2)] [] s Q) ∧
  (2 ≤ x2 →
    (pm_in x1 40 = true →
      (x1 ≤ (ps_a s 1154 (Int32.toNatClampNeg x1)) →
        Q (some (.int 0)) s) ∧
      ((ps_a s 1154 (Int32.toNatClampNeg x1)) < x1 →
        pl_At n 250 69 [(0, .ref 1131), (1, .int x1), (2, .int x2)] [] s Q)))) : pl_At (n + 1) 250 54 [(0, .ref 1131), (1, .int x1), (2, .int x2)] [] s Q :=
  pl_wp_at (stops := [(54, [0, 1, 2]), (69, [0, 1, 2])]) (f := 13) h rfl

theorem pl_250_69 {n : Nat} {x1 : Int32} {x2 : Int32} {s : ps_S} {Q : Option Value → ps_S → Prop} (h :
  (x2 < 3 →
    Q (some (.int 1)) s) ∧
  (3 ≤ x2 →
    (pm_in x1 40 = true →
      (x1 ≤ (ps_a s 1155 (Int32.toNatClampNeg x1)) →
        Q (some (.int 0)) s) ∧
      ((ps_a s 1155 (Int32.toNatClampNeg x1)) < x1 →
        Q (some (.int 1)) s)))) : pl_At (n + 1) 250 69 [(0, .ref 1131), (1, .int x1), (2, .int x2)] [] s Q :=
  pl_wp_at (stops := [(54, [0, 1, 2]), (69, [0, 1, 2])]) (f := 19) h rfl

-- ProofBenchModel.leanOn(II)V
theorem pl_251_0 {n : Nat} {x1 : Int32} {x2 : Int32} {s : ps_S} {Q : Option Value → ps_S → Prop} (h :
  (pm_in x1 40 = true →
    (pm_in x2 40 = true →
      (pm_in x1 40 = true →
        (pm_in x1 40 = true →
          (pm_in x2 40 = true →
            (pm_in x1 40 = true →
              (pm_in x1 40 = true →
                (pm_in x2 40 = true →
                  (pm_in x1 40 = true →
                    Q none (ps_ub (ps_ua (ps_ua s 1158 (Int32.toNatClampNeg x1) ((ps_a s 1158 (Int32.toNatClampNeg x1)) ||| (ps_a s 1158 (Int32.toNatClampNeg x2)))) 1159 (Int32.toNatClampNeg x1) ((ps_a (ps_ua s 1158 (Int32.toNatClampNeg x1) ((ps_a s 1158 (Int32.toNatClampNeg x1)) ||| (ps_a s 1158 (Int32.toNatClampNeg x2)))) 1159 (Int32.toNatClampNeg x1)) ||| (ps_a (ps_ua s 1158 (Int32.toNatClampNeg x1) ((ps_a s 1158 (Int32.toNatClampNeg x1)) ||| (ps_a s 1158 (Int32.toNatClampNeg x2)))) 1159 (Int32.toNatClampNeg x2)))) 1160 (Int32.toNatClampNeg x1) ((ps_b (ps_ua (ps_ua s 1158 (Int32.toNatClampNeg x1) ((ps_a s 1158 (Int32.toNatClampNeg x1)) ||| (ps_a s 1158 (Int32.toNatClampNeg x2)))) 1159 (Int32.toNatClampNeg x1) ((ps_a (ps_ua s 1158 (Int32.toNatClampNeg x1) ((ps_a s 1158 (Int32.toNatClampNeg x1)) ||| (ps_a s 1158 (Int32.toNatClampNeg x2)))) 1159 (Int32.toNatClampNeg x1)) ||| (ps_a (ps_ua s 1158 (Int32.toNatClampNeg x1) ((ps_a s 1158 (Int32.toNatClampNeg x1)) ||| (ps_a s 1158 (Int32.toNatClampNeg x2)))) 1159 (Int32.toNatClampNeg x2)))) 1160 (Int32.toNatClampNeg x1)) ||| (ps_b (ps_ua (ps_ua s 1158 (Int32.toNatClampNeg x1) ((ps_a s 1158 (Int32.toNatClampNeg x1)) ||| (ps_a s 1158 (Int32.toNatClampNeg x2)))) 1159 (Int32.toNatClampNeg x1) ((ps_a (ps_ua s 1158 (Int32.toNatClampNeg x1) ((ps_a s 1158 (Int32.toNatClampNeg x1)) ||| (ps_a s 1158 (Int32.toNatClampNeg x2)))) 1159 (Int32.toNatClampNeg x1)) ||| (ps_a (ps_ua s 1158 (Int32.toNatClampNeg x1) ((ps_a s 1158 (Int32.toNatClampNeg x1)) ||| (ps_a s 1158 (Int32.toNatClampNeg x2)))) 1159 (Int32.toNatClampNeg x2)))) 1160 (Int32.toNatClampNeg x2)))))))))))))) : pl_At (n + 1) 251 0 [(0, .ref 1131), (1, .int x1), (2, .int x2)] [] s Q :=
  pl_wp_at (stops := []) (f := 36) h rfl

/-- are the premises there -/
theorem fm_250 {n b : Nat} {h : tx_H} {Θ : List tq_H} {D : List tq_R} {st : tp_P} {x1 : Int32} {s : ps_S} {R : Int32 → ps_S → Prop} (h1 : x1.toInt = D.length) (hi : D.length < 40) (X : mpX s b h Θ D st) (hr : tp_ok st.1.1) (k1 : tq_pr Θ D st → R 1 s) (k0 : ¬ tq_pr Θ D st → R 0 s) : pl_Cl n 250 [.ref 1131, .int x1] s (ps_rI R) := by
  cases n with
  | zero => exact pl_At_0
  | succ n =>
  show pl_At (n + 1) 250 0 [(0, .ref 1131), (1, .int x1)] [] s (ps_rI R)
  obtain ⟨t1, t2, t3, t4, -⟩ := X.2.2.2
  have y1 := X.2.1.1
  have h3 := tp_nn_le (r := st.1.1)
  have c1 : (1 : Int32).toInt = 1 := by decide
  have c2 : (2 : Int32).toInt = 2 := by decide
  have c3 : (3 : Int32).toInt = 3 := by decide
  have hk2 : st.1.1 = 12 ↔ (kd st.1.1 : Int) = 2 := by
    unfold kd
    unfold tp_ok at hr
    split
    · omega
    · split
      · omega
      · split
        · omega
        · split <;> omega
  have at69 : st.1.1 ≠ 12 → (1 ≤ tp_nn st.1.1 → st.1.2.1 < D.length) → (2 ≤ tp_nn st.1.1 → st.1.2.2.1 < D.length) → ∀ {n' : Nat} {v : Int32}, v.toInt = tp_nn st.1.1 → pl_At n' 250 69 [(0, .ref 1131), (1, .int x1), (2, .int v)] [] s (ps_rI R) := fun h12 p1 p2 {n' v} hv => by
    cases n' with
    | zero => exact pl_At_0
    | succ n' =>
    have e : tq_pr Θ D st ↔ (3 ≤ tp_nn st.1.1 → st.1.2.2.2 < D.length) := by
      unfold tq_pr
      rw [if_neg h12]
      exact ⟨fun z => z.2.2, fun z => ⟨p1, p2, z⟩⟩
    refine pl_250_69 ?_
    rw [xtn h1]
    refine ⟨fun z => k1 (e.mpr (fun w => ?_)), fun z => ?_⟩
    · have z := xlt z
      omega
    · have z := xle z
      intro _
      have q := t4 (by omega)
      refine ⟨fun w => k0 (fun u => ?_), fun w => k1 (e.mpr (fun _ => ?_))⟩
      · have w := xle w
        have := e.mp u (by omega)
        omega
      · have w := xlt w
        omega
  have at54 : st.1.1 ≠ 12 → (1 ≤ tp_nn st.1.1 → st.1.2.1 < D.length) → ∀ {n' : Nat} {v : Int32}, v.toInt = tp_nn st.1.1 → pl_At n' 250 54 [(0, .ref 1131), (1, .int x1), (2, .int v)] [] s (ps_rI R) := fun h12 p1 {n' v} hv => by
    cases n' with
    | zero => exact pl_At_0
    | succ n' =>
    refine pl_250_54 ?_
    rw [xtn h1]
    refine ⟨fun z => at69 h12 p1 (fun w => ?_) hv, fun z => ?_⟩
    · have z := xlt z
      omega
    · have z := xle z
      intro _
      have q := t3 (by omega)
      refine ⟨fun w => k0 (fun u => ?_), fun w => at69 h12 p1 (fun _ => ?_) hv⟩
      · have w := xle w
        unfold tq_pr at u
        rw [if_neg h12] at u
        have := u.2.1 (by omega)
        omega
      · have w := xlt w
        omega
  refine pl_250_0 ?_
  rw [xtn h1]
  intro _
  refine fm_234 t1 hr (fun v1 q1 => ?_)
  intro _
  refine ⟨fun z => ⟨fun w => at54 ?_ (fun u => ?_) q1, fun w => ?_⟩, fun z => ?_⟩
  · have z : (ps_a s 1152 D.length).toInt ≠ (2 : Int) := xne z
    omega
  · have w := xlt w
    omega
  · have z : (ps_a s 1152 D.length).toInt ≠ (2 : Int) := xne z
    have w := xle w
    have h12 : st.1.1 ≠ 12 := by omega
    intro _
    have q := t2 (by omega)
    refine ⟨fun y => k0 (fun u => ?_), fun y => at54 h12 (fun _ => ?_) q1⟩
    · have y := xle y
      unfold tq_pr at u
      rw [if_neg h12] at u
      have := u.1 (by omega)
      omega
    · have y := xlt y
      omega
  · have z : (ps_a s 1152 D.length).toInt = (2 : Int) := xeq z
    have h12 : st.1.1 = 12 := by omega
    have e : tq_pr Θ D st ↔ st.1.2.1 < Θ.length := by
      unfold tq_pr
      rw [if_pos h12]
    have q := t2 (by rw [h12]; decide)
    intro _
    refine ⟨fun y => k0 (fun u => ?_), fun y => k1 (e.mpr ?_)⟩
    · have y := xle y
      have := e.mp u
      omega
    · have y := xlt y
      omega

-- ProofBenchModel.takesPlain(I)V
theorem pl_253_0 {n : Nat} {x1 : Int32} {s : ps_S} {Q : Option Value → ps_S → Prop} (h :
  pl_Cl n 244 [.ref 1131, .int x1] s (ps_rI (fun v1 s1 =>
    (pm_in x1 40 = true →
      ((ps_a s1 1152 (Int32.toNatClampNeg x1)) = 0 →
        pl_Cl n 227 [.ref 1131, .int ((22468 : Int32) + ((41 : Int32) * x1))] s1 (ps_rV (fun s2 =>
          pl_Cl n 248 [.ref 1131, .int x1, .int ((22468 : Int32) + ((41 : Int32) * x1))] s2 (ps_rV (fun s3 =>
            Q none s3))))) ∧
      ((ps_a s1 1152 (Int32.toNatClampNeg x1)) ≠ 0 →
        ((ps_a s1 1152 (Int32.toNatClampNeg x1)) = 1 →
        (pm_in x1 40 = true →
          pl_Cl n 227 [.ref 1131, .int ((21812 : Int32) + ((41 : Int32) * (((8 : Int32) * (ps_i s1 1131 21)) + (ps_a s1 1153 (Int32.toNatClampNeg x1)))))] s1 (ps_rV (fun s4 =>
            Q none s4)))) ∧
      ((ps_a s1 1152 (Int32.toNatClampNeg x1)) ≠ 1 →
        ((ps_a s1 1152 (Int32.toNatClampNeg x1)) = 2 →
        (pm_in x1 40 = true →
          pl_Cl n 227 [.ref 1131, .int ((21320 : Int32) + ((41 : Int32) * (ps_a s1 1153 (Int32.toNatClampNeg x1))))] s1 (ps_rV (fun s5 =>
            Q none s5)))) ∧
      ((ps_a s1 1152 (Int32.toNatClampNeg x1)) ≠ 2 →
        ((ps_a s1 1152 (Int32.toNatClampNeg x1)) = 3 →
        pl_Cl n 225 [.ref 1131, .int 1] s1 (ps_rV (fun s6 =>
          pl_Cl n 227 [.ref 1131, .int v1] s6 (ps_rV (fun s7 =>
            pl_Cl n 245 [.ref 1131, .int x1] s7 (ps_rI (fun v8 s8 =>
              pl_Cl n 227 [.ref 1131, .int v8] s8 (ps_rV (fun s9 =>
                pl_At n 253 202 [(0, .ref 1131), (1, .int x1)] [] s9 Q))))))))) ∧
      ((ps_a s1 1152 (Int32.toNatClampNeg x1)) ≠ 3 →
        ((ps_a s1 1152 (Int32.toNatClampNeg x1)) = 4 →
        pl_Cl n 254 [.ref 1131, .int x1, .int v1] s1 (ps_rV (fun s10 =>
          pl_At n 253 202 [(0, .ref 1131), (1, .int x1)] [] s10 Q))) ∧
      ((ps_a s1 1152 (Int32.toNatClampNeg x1)) ≠ 4 →
        ((ps_a s1 1152 (Int32.toNatClampNeg x1)) = 5 →
        pl_Cl n 254 [.ref 1131, .int x1, .int v1] s1 (ps_rV (fun s11 =>
          pl_At n 253 202 [(0, .ref 1131), (1, .int x1)] [] s11 Q))) ∧
      ((ps_a s1 1152 (Int32.toNatClampNeg x1)) ≠ 5 →
        pl_Cl n 225 [.ref 1131, .int 2] s1 (ps_rV (fun s12 =>
        (pm_in x1 40 = true →
          ((ps_a s12 1152 (Int32.toNatClampNeg x1)) ≠ 6 →
            pl_At n 253 174 [(0, .ref 1131), (1, .int x1), (2, .int v1)] [] s12 Q) ∧
          ((ps_a s12 1152 (Int32.toNatClampNeg x1)) = 6 →
            pl_Cl n 227 [.ref 1131, .int v1] s12 (ps_rV (fun s13 =>
              pl_At n 253 174 [(0, .ref 1131), (1, .int x1), (2, .int v1)] [] s13 Q)))))))))))))))) : pl_At (n + 1) 253 0 [(0, .ref 1131), (1, .int x1)] [] s Q :=
  pl_wp_at (stops := [(174, [0, 1, 2]), (202, [0, 1])]) (f := 88) h rfl

theorem pl_253_174 {n : Nat} {x1 : Int32} {x2 : Int32} {s : ps_S} {Q : Option Value → ps_S → Prop} (h :
  pl_Cl n 227 [.ref 1131, .int ((22468 : Int32) + ((41 : Int32) * x1))] s (ps_rV (fun s1 =>
    (pm_in x1 40 = true →
      ((ps_a s1 1152 (Int32.toNatClampNeg x1)) ≠ 7 →
        pl_At n 253 202 [(0, .ref 1131), (1, .int x1)] [] s1 Q) ∧
      ((ps_a s1 1152 (Int32.toNatClampNeg x1)) = 7 →
        pl_Cl n 227 [.ref 1131, .int x2] s1 (ps_rV (fun s2 =>
          pl_At n 253 202 [(0, .ref 1131), (1, .int x1)] [] s2 Q))))))) : pl_At (n + 1) 253 174 [(0, .ref 1131), (1, .int x1), (2, .int x2)] [] s Q :=
  pl_wp_at (stops := [(174, [0, 1, 2]), (202, [0, 1])]) (f := 18) h rfl

theorem pl_253_202 {n : Nat} {x1 : Int32} {s : ps_S} {Q : Option Value → ps_S → Prop} (h :
  (pm_in x1 40 = true →
    pl_Cl n 249 [.ref 1131, .int x1, .int (ps_a s 1153 (Int32.toNatClampNeg x1)), .int 0] s (ps_rV (fun s1 =>
      (pm_in x1 40 = true →
        ((ps_a s1 1152 (Int32.toNatClampNeg x1)) ≠ 3 →
          Q none s1) ∧
        ((ps_a s1 1152 (Int32.toNatClampNeg x1)) = 3 →
          (pm_in x1 40 = true →
            pl_Cl n 249 [.ref 1131, .int x1, .int (ps_a s1 1154 (Int32.toNatClampNeg x1)), .int 0] s1 (ps_rV (fun s2 =>
              Q none s2))))))))) : pl_At (n + 1) 253 202 [(0, .ref 1131), (1, .int x1)] [] s Q :=
  pl_wp_at (stops := [(174, [0, 1, 2]), (202, [0, 1])]) (f := 26) h rfl

-- ProofBenchModel.takesPart(II)V
theorem pl_254_0 {n : Nat} {x1 : Int32} {x2 : Int32} {s : ps_S} {Q : Option Value → ps_S → Prop} (h :
  pl_Cl n 247 [.ref 1131, .int x2] s (ps_rI (fun v1 s1 =>
    (v1 = 1 →
      pl_Cl n 221 [.ref 1131, .int x2, .int 1] s1 (ps_rI (fun v2 s2 =>
        (pm_in x1 40 = true →
          ((ps_a s2 1152 (Int32.toNatClampNeg x1)) ≠ 4 →
            pl_Cl n 219 [.ref 1131, .int x2] s2 (ps_rI (fun v3 s3 =>
              pl_Cl n 226 [.ref 1131, .int x2, .int v2, .int v3] s3 (ps_rV (fun s4 =>
                Q none s4))))) ∧
          ((ps_a s2 1152 (Int32.toNatClampNeg x1)) = 4 →
            pl_Cl n 226 [.ref 1131, .int x2, .int 1, .int v2] s2 (ps_rV (fun s5 =>
              Q none s5))))))) ∧
    (v1 ≠ 1 →
      pl_Cl n 241 [.ref 1131, .int 2] s1 (ps_rV (fun s6 =>
        Q none s6)))))) : pl_At (n + 1) 254 0 [(0, .ref 1131), (1, .int x1), (2, .int x2)] [] s Q :=
  pl_wp_at (stops := []) (f := 37) h rfl

section TKP
variable {b n1 n2 n3 ax x : Nat} {h : tx_H} {Θ : List tq_H} {D : List tq_R} {t f : List Nat} {x1 : Int32} {s0 : ps_S} {R : ps_S → Prop}

theorem fm_253_r11 {n : Nat} (h1 : x1.toInt = D.length) (hi : D.length < 40) (X : mpX s0 b h Θ D ((11, n1, n2, n3), (ax, x), t, f)) (B : mpB s0 D.length) (hD : tq_GD h.1 D) (hG : tp_G h.1 h.2.length ((11, n1, n2, n3), (ax, x), t, f)) (hpr : tq_pr Θ D ((11, n1, n2, n3), (ax, x), t, f)) (k : ∀ s', TKm s0 s' h Θ D ((11, n1, n2, n3), (ax, x), t, f) → R s') : pl_Cl n 253 [.ref 1131, .int x1] s0 (ps_rV R) := by
  cases n with
  | zero => exact pl_At_0
  | succ n =>
  show pl_At (n + 1) 253 0 [(0, .ref 1131), (1, .int x1)] [] s0 (ps_rV R)
  obtain ⟨b1, b2, b3⟩ := B
  have hA := arh_k (g := h.1) X.1.2.2.1.2.2.1 X.1.2.2.1.2.2.2.1
  have er : (ps_a s0 1152 D.length).toInt = (0 : Int) := X.2.2.2.1.trans rfl
  obtain ⟨wf, lf⟩ : ws (sg h.1) f [true] ∧ f.length ≤ 40 := hG.2.2.1 (of_decide_eq_true rfl)
  have Wf : mv_W s0 (22468 + 41 * D.length) f := X.2.2.2.2.2.2.2.2.2.2 (of_decide_eq_true rfl)
  refine pl_253_0 ?_
  rw [xtn h1]
  refine fm_244o (i := D.length) (fun v1 => ?_)
  intro _
  refine ⟨fun _ => ?_, fun z => absurd (show (ps_a _ 1152 D.length).toInt = (0 : Int) from er) (xne z)⟩
  refine fm_227 (l := f) (rowF h1 hi) (by omega) Wf b2 (by decide) (fun s2 M2 K2 => ?_)
  have T2 : TKf D.length s0 s2 := TKf_q TKf_refl K2 (by decide) (by decide) (by decide)
  refine fm_248 (i := D.length) (tr := 22468 + 41 * D.length) h1 hi (rowF h1 hi) (by omega) (by omega) (mv_W_kq Wf K2 (by decide)) (PAm_kq b3 K2 (by decide) (by decide)) (by decide) (fun s3 P3 K3 => ?_)
  have T3 := TKf_A T2 K3
  refine k s3 (TKm_mk tq_mk_11 ?_ (mk_M_kq M2 K3.1 (by decide) (by decide)) (Or.inr wf) (by show f.length ≤ 2000; omega) P3 (by decide) (fun _ => ⟨rfl, ?_⟩) T3)
  · rw [kq_i K3.1 50 (by decide), kq_i K2 50 (by decide)]
    exact b1
  · rw [if_neg (by intro z; rcases z with z | z; exact absurd z (by decide); cases z)]
    rfl

theorem fm_253_r10 {n : Nat} (hwt : WFt h) (h1 : x1.toInt = D.length) (hi : D.length < 40) (X : mpX s0 b h Θ D ((10, n1, n2, n3), (ax, x), t, f)) (B : mpB s0 D.length) (hD : tq_GD h.1 D) (hG : tp_G h.1 h.2.length ((10, n1, n2, n3), (ax, x), t, f)) (hpr : tq_pr Θ D ((10, n1, n2, n3), (ax, x), t, f)) (k : ∀ s', TKm s0 s' h Θ D ((10, n1, n2, n3), (ax, x), t, f) → R s') : pl_Cl n 253 [.ref 1131, .int x1] s0 (ps_rV R) := by
  cases n with
  | zero => exact pl_At_0
  | succ n =>
  show pl_At (n + 1) 253 0 [(0, .ref 1131), (1, .int x1)] [] s0 (ps_rV R)
  obtain ⟨b1, b2, b3⟩ := B
  have hA := arh_k (g := h.1) X.1.2.2.1.2.2.1 X.1.2.2.1.2.2.2.1
  have er : (ps_a s0 1152 D.length).toInt = (1 : Int) := X.2.2.2.1.trans rfl
  have hax : ax < h.2.length := hG.2.2.2.2.1 rfl
  have h8 := X.1.2.2.2.2.1
  have ea : (ps_a s0 1153 D.length).toInt = ax := X.2.2.2.2.2.2.2.1 rfl
  obtain ⟨⟨w, l⟩, hk⟩ : ∃ q, h.2[ax]? = some q := ⟨_, List.getElem?_eq_getElem hax⟩
  obtain ⟨-, -, Wa⟩ := X.1.2.2.2.2.2 ax w l hk
  have hb := X.1.1
  have em : (h.2.getD ax ([], [])).2 = l := by
    rw [List.getD_eq_getElem?_getD, hk]
    rfl
  refine pl_253_0 ?_
  rw [xtn h1]
  refine fm_244o (i := D.length) (fun v1 => ?_)
  intro _
  refine ⟨fun z => absurd (show (ps_a _ 1152 D.length).toInt = (0 : Int) from xeq z) (by omega), fun _ => ?_⟩
  refine ⟨fun _ => ?_, fun z => absurd (show (ps_a _ 1152 D.length).toInt = (1 : Int) from er) (xne z)⟩
  intro _
  refine fm_227 (l := l) (rowA X.1.2.1 hb ea (by omega)) (by omega) Wa b2 (by decide) (fun s2 M2 K2 => ?_)
  have l40 := Wa.2.1
  refine k s2 (TKm_mk tq_mk_10 ?_ M2 ?_ (by show l.length ≤ 2000; omega) (PAm_kq b3 K2 (by decide) (by decide)) (by decide) (fun _ => ⟨em.symm, rfl⟩) (TKf_q TKf_refl K2 (by decide) (by decide) (by decide)))
  · rw [kq_i K2 50 (by decide)]
    exact b1
  · exact Or.inr (wf_ws (hwt.2.2 ax w l hk).1)

theorem fm_253_r12 {n : Nat} (hT : tq_GT h.1 Θ) (h1 : x1.toInt = D.length) (hi : D.length < 40) (X : mpX s0 b h Θ D ((12, n1, n2, n3), (ax, x), t, f)) (B : mpB s0 D.length) (hD : tq_GD h.1 D) (hG : tp_G h.1 h.2.length ((12, n1, n2, n3), (ax, x), t, f)) (hpr : tq_pr Θ D ((12, n1, n2, n3), (ax, x), t, f)) (k : ∀ s', TKm s0 s' h Θ D ((12, n1, n2, n3), (ax, x), t, f) → R s') : pl_Cl n 253 [.ref 1131, .int x1] s0 (ps_rV R) := by
  cases n with
  | zero => exact pl_At_0
  | succ n =>
  show pl_At (n + 1) 253 0 [(0, .ref 1131), (1, .int x1)] [] s0 (ps_rV R)
  obtain ⟨b1, b2, b3⟩ := B
  have hA := arh_k (g := h.1) X.1.2.2.1.2.2.1 X.1.2.2.1.2.2.2.1
  have er : (ps_a s0 1152 D.length).toInt = (2 : Int) := X.2.2.2.1.trans rfl
  have hn : n1 < Θ.length := hpr
  have e1 : (ps_a s0 1153 D.length).toInt = n1 := X.2.2.2.2.1 (of_decide_eq_true rfl)
  have h12 := X.2.1.2.1
  obtain ⟨q, hk⟩ : ∃ q, Θ[n1]? = some q := ⟨_, List.getElem?_eq_getElem hn⟩
  obtain ⟨Wa, -⟩ := X.2.1.2.2 n1 q hk
  have em : (Θ.getD n1 ([], 0, 0, 0)).1 = q.1 := by
    rw [List.getD_eq_getElem?_getD, hk]
    rfl
  refine pl_253_0 ?_
  rw [xtn h1]
  refine fm_244o (i := D.length) (fun v1 => ?_)
  intro _
  refine ⟨fun z => absurd (show (ps_a _ 1152 D.length).toInt = (0 : Int) from xeq z) (by omega), fun _ => ?_⟩
  refine ⟨fun z => absurd (show (ps_a _ 1152 D.length).toInt = (1 : Int) from xeq z) (by omega), fun _ => ?_⟩
  refine ⟨fun _ => ?_, fun z => absurd (show (ps_a _ 1152 D.length).toInt = (2 : Int) from er) (xne z)⟩
  intro _
  refine fm_227 (l := q.1) (rowH e1 (by omega)) (by omega) Wa b2 (by decide) (fun s2 M2 K2 => ?_)
  have l40 := Wa.2.1
  refine k s2 (TKm_mk tq_mk_12 ?_ M2 (Or.inr (hT.2 n1 q hk).1) (by show q.1.length ≤ 2000; omega) (PAm_kq b3 K2 (by decide) (by decide)) (by decide) (fun _ => ⟨em.symm, rfl⟩) (TKf_q TKf_refl K2 (by decide) (by decide) (by decide)))
  rw [kq_i K2 50 (by decide)]
  exact b1

theorem fm_253_r13 {n : Nat} (h1 : x1.toInt = D.length) (hi : D.length < 40) (X : mpX s0 b h Θ D ((13, n1, n2, n3), (ax, x), t, f)) (B : mpB s0 D.length) (hD : tq_GD h.1 D) (hG : tp_G h.1 h.2.length ((13, n1, n2, n3), (ax, x), t, f)) (hpr : tq_pr Θ D ((13, n1, n2, n3), (ax, x), t, f)) (k : ∀ s', TKm s0 s' h Θ D ((13, n1, n2, n3), (ax, x), t, f) → R s') : pl_Cl n 253 [.ref 1131, .int x1] s0 (ps_rV R) := by
  cases n with
  | zero => exact pl_At_0
  | succ n =>
  show pl_At (n + 1) 253 0 [(0, .ref 1131), (1, .int x1)] [] s0 (ps_rV R)
  obtain ⟨b1, b2, b3⟩ := B
  have hA := arh_k (g := h.1) X.1.2.2.1.2.2.1 X.1.2.2.1.2.2.2.1
  have er : (ps_a s0 1152 D.length).toInt = (3 : Int) := X.2.2.2.1.trans rfl
  have p1 : n1 < D.length := hpr.1 (of_decide_eq_true rfl)
  have e1 : (ps_a s0 1153 D.length).toInt = n1 := X.2.2.2.2.1 (of_decide_eq_true rfl)
  obtain ⟨⟨W1, w1, ne1, l1⟩, -⟩ := mprem X hD p1
  have p2 : n2 < D.length := hpr.2.1 (of_decide_eq_true rfl)
  have e2 : (ps_a s0 1154 D.length).toInt = n2 := X.2.2.2.2.2.1 (of_decide_eq_true rfl)
  obtain ⟨⟨W2, w2, ne2, l2⟩, -⟩ := mprem X hD p2
  refine pl_253_0 ?_
  rw [xtn h1]
  refine fm_244 (i := D.length) (m := n1) h1 e1 (by omega) (fun v1 q1 => ?_)
  intro _
  refine ⟨fun z => absurd (show (ps_a _ 1152 D.length).toInt = (0 : Int) from xeq z) (by omega), fun _ => ?_⟩
  refine ⟨fun z => absurd (show (ps_a _ 1152 D.length).toInt = (1 : Int) from xeq z) (by omega), fun _ => ?_⟩
  refine ⟨fun z => absurd (show (ps_a _ 1152 D.length).toInt = (2 : Int) from xeq z) (by omega), fun _ => ?_⟩
  refine ⟨fun _ => ?_, fun z => absurd (show (ps_a _ 1152 D.length).toInt = (3 : Int) from er) (xne z)⟩
  refine fm_225 (c := 1) b2 rfl (by decide) (fun s2 M2 K2 => ?_)
  refine fm_227 (l := tq_r D n1) q1 (by omega) (mv_W_kq W1 K2 (by decide)) M2 (by decide) (fun s3 M3 K3 => ?_)
  have T3 : TKf D.length s0 s3 := TKf_q (TKf_q TKf_refl K2 (by decide) (by decide) (by decide)) K3 (by decide) (by decide) (by decide)
  have X3 := mpX_TKf X hi T3
  refine fm_245 (i := D.length) (m := n2) h1 (X3.2.2.2.2.2.1 (of_decide_eq_true rfl)) (by omega) (fun v2 q2 => ?_)
  refine fm_227 (l := tq_r D n2) q2 (by omega) (mprem X3 hD p2).1.1 M3 (by rw [List.length_append]; show 1 + (tq_r D n1).length < 50000; omega) (fun s4 M4 K4 => ?_)
  have T4 : TKf D.length s0 s4 := TKf_q T3 K4 (by decide) (by decide) (by decide)
  have er4 : (ps_a s4 1152 D.length).toInt = (3 : Int) := (mpX_TKf X hi T4).2.2.2.1.trans rfl
  cases n with
  | zero => exact pl_At_0
  | succ n =>
  refine pl_253_202 ?_
  rw [xtn h1]
  intro _
  have P4 := PAm_kq (PAm_kq (PAm_kq b3 K2 (by decide) (by decide)) K3 (by decide) (by decide)) K4 (by decide) (by decide)
  refine fm_249k X hD hi T4 h1 p1 (show (ps_a _ 1153 D.length).toInt = n1 from (mpX_TKf X hi T4).2.2.2.2.1 (of_decide_eq_true rfl)) M4 (Or.inl ⟨rfl, rfl⟩) (by decide) P4 (fun s5 P5 K5 => ?_)
  have T5 := TKf_A T4 K5
  have M5 := mk_M_kq M4 K5.1 (by decide) (by decide)
  have er5 := (kq_a T5.1 1152 (by decide))
  intro _
  have er : (ps_a s5 1152 D.length).toInt = (3 : Int) := (mpX_TKf X hi T5).2.2.2.1.trans rfl
  refine ⟨fun z => absurd (show (ps_a _ 1152 D.length).toInt = (3 : Int) from er) (xne z), fun _ => ?_⟩
  intro _
  refine fm_249k X hD hi T5 h1 p2 (show (ps_a _ 1154 D.length).toInt = n2 from (mpX_TKf X hi T5).2.2.2.2.2.1 (of_decide_eq_true rfl)) M5 (Or.inl ⟨rfl, rfl⟩) (by decide) P5 (fun s6 P6 K6 => ?_)
  have T6 := TKf_A T5 K6
  have M6 := mk_M_kq M5 K6.1 (by decide) (by decide)
  have er6 := (kq_a T6.1 1152 (by decide))
  refine k s6 (TKm_mk tq_mk_13 ?_ M6 (Or.inr ?_) ?_ P6 (by decide) (fun _ => ⟨?_, rfl⟩) T6)
  · rw [kq_i K6.1 50 (by decide), kq_i K5.1 50 (by decide), kq_i K4 50 (by decide), kq_i K3 50 (by decide), kq_i K2 50 (by decide)]
    exact b1
  · show ws (sg h.1) (1 :: (tq_r D n1 ++ tq_r D n2)) [true]
    exact ws_c (kS_2 (by decide) (by decide)) (ws_app (W1 := [true]) w1 w2)
  · show (1 :: (tq_r D n1 ++ tq_r D n2)).length ≤ 2000
    rw [List.length_cons, List.length_append]
    omega
  · rfl

theorem fm_253_r16 {n : Nat} (h1 : x1.toInt = D.length) (hi : D.length < 40) (X : mpX s0 b h Θ D ((16, n1, n2, n3), (ax, x), t, f)) (B : mpB s0 D.length) (hD : tq_GD h.1 D) (hG : tp_G h.1 h.2.length ((16, n1, n2, n3), (ax, x), t, f)) (hpr : tq_pr Θ D ((16, n1, n2, n3), (ax, x), t, f)) (k : ∀ s', TKm s0 s' h Θ D ((16, n1, n2, n3), (ax, x), t, f) → R s') : pl_Cl n 253 [.ref 1131, .int x1] s0 (ps_rV R) := by
  cases n with
  | zero => exact pl_At_0
  | succ n =>
  show pl_At (n + 1) 253 0 [(0, .ref 1131), (1, .int x1)] [] s0 (ps_rV R)
  obtain ⟨b1, b2, b3⟩ := B
  have hA := arh_k (g := h.1) X.1.2.2.1.2.2.1 X.1.2.2.1.2.2.2.1
  have er : (ps_a s0 1152 D.length).toInt = (6 : Int) := X.2.2.2.1.trans rfl
  have p1 : n1 < D.length := hpr.1 (of_decide_eq_true rfl)
  have e1 : (ps_a s0 1153 D.length).toInt = n1 := X.2.2.2.2.1 (of_decide_eq_true rfl)
  obtain ⟨⟨W1, w1, ne1, l1⟩, -⟩ := mprem X hD p1
  obtain ⟨wf, lf⟩ : ws (sg h.1) f [true] ∧ f.length ≤ 40 := hG.2.2.1 (of_decide_eq_true rfl)
  have Wf : mv_W s0 (22468 + 41 * D.length) f := X.2.2.2.2.2.2.2.2.2.2 (of_decide_eq_true rfl)
  refine pl_253_0 ?_
  rw [xtn h1]
  refine fm_244 (i := D.length) (m := n1) h1 e1 (by omega) (fun v1 q1 => ?_)
  intro _
  refine ⟨fun z => absurd (show (ps_a _ 1152 D.length).toInt = (0 : Int) from xeq z) (by omega), fun _ => ?_⟩
  refine ⟨fun z => absurd (show (ps_a _ 1152 D.length).toInt = (1 : Int) from xeq z) (by omega), fun _ => ?_⟩
  refine ⟨fun z => absurd (show (ps_a _ 1152 D.length).toInt = (2 : Int) from xeq z) (by omega), fun _ => ?_⟩
  refine ⟨fun z => absurd (show (ps_a _ 1152 D.length).toInt = (3 : Int) from xeq z) (by omega), fun _ => ?_⟩
  refine ⟨fun z => absurd (show (ps_a _ 1152 D.length).toInt = (4 : Int) from xeq z) (by omega), fun _ => ?_⟩
  refine ⟨fun z => absurd (show (ps_a _ 1152 D.length).toInt = (5 : Int) from xeq z) (by omega), fun _ => ?_⟩
  refine fm_225 (c := 2) b2 rfl (by decide) (fun s2 M2 K2 => ?_)
  have T2 : TKf D.length s0 s2 := TKf_q TKf_refl K2 (by decide) (by decide) (by decide)
  intro _
  have er : (ps_a s2 1152 D.length).toInt = (6 : Int) := (mpX_TKf X hi T2).2.2.2.1.trans rfl
  refine ⟨fun z => absurd (show (ps_a _ 1152 D.length).toInt = (6 : Int) from er) (xne z), fun _ => ?_⟩
  refine fm_227 (l := tq_r D n1) q1 (by omega) (mv_W_kq W1 K2 (by decide)) M2 (by decide) (fun s3 M3 K3 => ?_)
  have T3 : TKf D.length s0 s3 := TKf_q T2 K3 (by decide) (by decide) (by decide)
  cases n with
  | zero => exact pl_At_0
  | succ n =>
  refine pl_253_174 ?_
  rw [xtn h1]
  refine fm_227 (l := f) (rowF h1 hi) (by omega) (mv_W_kq (mv_W_kq Wf K2 (by decide)) K3 (by decide)) M3 (by rw [List.length_append]; show 1 + (tq_r D n1).length < 50000; omega) (fun s4 M4 K4 => ?_)
  have T4 : TKf D.length s0 s4 := TKf_q T3 K4 (by decide) (by decide) (by decide)
  intro _
  have er : (ps_a s4 1152 D.length).toInt = (6 : Int) := (mpX_TKf X hi T4).2.2.2.1.trans rfl
  refine ⟨fun _ => ?_, fun z => absurd (show (ps_a _ 1152 D.length).toInt = (7 : Int) from xeq z) (by omega)⟩
  cases n with
  | zero => exact pl_At_0
  | succ n =>
  refine pl_253_202 ?_
  rw [xtn h1]
  intro _
  have P4 := PAm_kq (PAm_kq (PAm_kq b3 K2 (by decide) (by decide)) K3 (by decide) (by decide)) K4 (by decide) (by decide)
  refine fm_249k X hD hi T4 h1 p1 (show (ps_a _ 1153 D.length).toInt = n1 from (mpX_TKf X hi T4).2.2.2.2.1 (of_decide_eq_true rfl)) M4 (Or.inl ⟨rfl, rfl⟩) (by decide) P4 (fun s5 P5 K5 => ?_)
  have T5 := TKf_A T4 K5
  have M5 := mk_M_kq M4 K5.1 (by decide) (by decide)
  have er5 := (kq_a T5.1 1152 (by decide))
  intro _
  have er : (ps_a s5 1152 D.length).toInt = (6 : Int) := (mpX_TKf X hi T5).2.2.2.1.trans rfl
  refine ⟨fun _ => ?_, fun z => absurd (show (ps_a _ 1152 D.length).toInt = (3 : Int) from xeq z) (by omega)⟩
  refine k s5 (TKm_mk tq_mk_16 ?_ M5 (Or.inr ?_) ?_ P5 (by decide) (fun _ => ⟨?_, rfl⟩) T5)
  · rw [kq_i K5.1 50 (by decide), kq_i K4 50 (by decide), kq_i K3 50 (by decide), kq_i K2 50 (by decide)]
    exact b1
  · show ws (sg h.1) (2 :: (tq_r D n1 ++ f)) [true]
    exact ws_c (kS_2 (by decide) (by decide)) (ws_app (W1 := [true]) w1 wf)
  · show (2 :: (tq_r D n1 ++ f)).length ≤ 2000
    rw [List.length_cons, List.length_append]
    omega
  · rfl

theorem fm_253_r17 {n : Nat} (h1 : x1.toInt = D.length) (hi : D.length < 40) (X : mpX s0 b h Θ D ((17, n1, n2, n3), (ax, x), t, f)) (B : mpB s0 D.length) (hD : tq_GD h.1 D) (hG : tp_G h.1 h.2.length ((17, n1, n2, n3), (ax, x), t, f)) (hpr : tq_pr Θ D ((17, n1, n2, n3), (ax, x), t, f)) (k : ∀ s', TKm s0 s' h Θ D ((17, n1, n2, n3), (ax, x), t, f) → R s') : pl_Cl n 253 [.ref 1131, .int x1] s0 (ps_rV R) := by
  cases n with
  | zero => exact pl_At_0
  | succ n =>
  show pl_At (n + 1) 253 0 [(0, .ref 1131), (1, .int x1)] [] s0 (ps_rV R)
  obtain ⟨b1, b2, b3⟩ := B
  have hA := arh_k (g := h.1) X.1.2.2.1.2.2.1 X.1.2.2.1.2.2.2.1
  have er : (ps_a s0 1152 D.length).toInt = (7 : Int) := X.2.2.2.1.trans rfl
  have p1 : n1 < D.length := hpr.1 (of_decide_eq_true rfl)
  have e1 : (ps_a s0 1153 D.length).toInt = n1 := X.2.2.2.2.1 (of_decide_eq_true rfl)
  obtain ⟨⟨W1, w1, ne1, l1⟩, -⟩ := mprem X hD p1
  obtain ⟨wf, lf⟩ : ws (sg h.1) f [true] ∧ f.length ≤ 40 := hG.2.2.1 (of_decide_eq_true rfl)
  have Wf : mv_W s0 (22468 + 41 * D.length) f := X.2.2.2.2.2.2.2.2.2.2 (of_decide_eq_true rfl)
  refine pl_253_0 ?_
  rw [xtn h1]
  refine fm_244 (i := D.length) (m := n1) h1 e1 (by omega) (fun v1 q1 => ?_)
  intro _
  refine ⟨fun z => absurd (show (ps_a _ 1152 D.length).toInt = (0 : Int) from xeq z) (by omega), fun _ => ?_⟩
  refine ⟨fun z => absurd (show (ps_a _ 1152 D.length).toInt = (1 : Int) from xeq z) (by omega), fun _ => ?_⟩
  refine ⟨fun z => absurd (show (ps_a _ 1152 D.length).toInt = (2 : Int) from xeq z) (by omega), fun _ => ?_⟩
  refine ⟨fun z => absurd (show (ps_a _ 1152 D.length).toInt = (3 : Int) from xeq z) (by omega), fun _ => ?_⟩
  refine ⟨fun z => absurd (show (ps_a _ 1152 D.length).toInt = (4 : Int) from xeq z) (by omega), fun _ => ?_⟩
  refine ⟨fun z => absurd (show (ps_a _ 1152 D.length).toInt = (5 : Int) from xeq z) (by omega), fun _ => ?_⟩
  refine fm_225 (c := 2) b2 rfl (by decide) (fun s2 M2 K2 => ?_)
  have T2 : TKf D.length s0 s2 := TKf_q TKf_refl K2 (by decide) (by decide) (by decide)
  intro _
  have er : (ps_a s2 1152 D.length).toInt = (7 : Int) := (mpX_TKf X hi T2).2.2.2.1.trans rfl
  refine ⟨fun _ => ?_, fun z => absurd (show (ps_a _ 1152 D.length).toInt = (6 : Int) from xeq z) (by omega)⟩
  cases n with
  | zero => exact pl_At_0
  | succ n =>
  refine pl_253_174 ?_
  rw [xtn h1]
  refine fm_227 (l := f) (rowF h1 hi) (by omega) (mv_W_kq Wf K2 (by decide)) M2 (by decide) (fun s3 M3 K3 => ?_)
  have T3 : TKf D.length s0 s3 := TKf_q T2 K3 (by decide) (by decide) (by decide)
  intro _
  have er : (ps_a s3 1152 D.length).toInt = (7 : Int) := (mpX_TKf X hi T3).2.2.2.1.trans rfl
  refine ⟨fun z => absurd (show (ps_a _ 1152 D.length).toInt = (7 : Int) from er) (xne z), fun _ => ?_⟩
  refine fm_227 (l := tq_r D n1) q1 (by omega) (mv_W_kq (mv_W_kq W1 K2 (by decide)) K3 (by decide)) M3 (by rw [List.length_append]; show 1 + f.length < 50000; omega) (fun s4 M4 K4 => ?_)
  have T4 : TKf D.length s0 s4 := TKf_q T3 K4 (by decide) (by decide) (by decide)
  cases n with
  | zero => exact pl_At_0
  | succ n =>
  refine pl_253_202 ?_
  rw [xtn h1]
  intro _
  have P4 := PAm_kq (PAm_kq (PAm_kq b3 K2 (by decide) (by decide)) K3 (by decide) (by decide)) K4 (by decide) (by decide)
  refine fm_249k X hD hi T4 h1 p1 (show (ps_a _ 1153 D.length).toInt = n1 from (mpX_TKf X hi T4).2.2.2.2.1 (of_decide_eq_true rfl)) M4 (Or.inl ⟨rfl, rfl⟩) (by decide) P4 (fun s5 P5 K5 => ?_)
  have T5 := TKf_A T4 K5
  have M5 := mk_M_kq M4 K5.1 (by decide) (by decide)
  have er5 := (kq_a T5.1 1152 (by decide))
  intro _
  have er : (ps_a s5 1152 D.length).toInt = (7 : Int) := (mpX_TKf X hi T5).2.2.2.1.trans rfl
  refine ⟨fun _ => ?_, fun z => absurd (show (ps_a _ 1152 D.length).toInt = (3 : Int) from xeq z) (by omega)⟩
  refine k s5 (TKm_mk tq_mk_17 ?_ M5 (Or.inr ?_) ?_ P5 (by decide) (fun _ => ⟨?_, rfl⟩) T5)
  · rw [kq_i K5.1 50 (by decide), kq_i K4 50 (by decide), kq_i K3 50 (by decide), kq_i K2 50 (by decide)]
    exact b1
  · show ws (sg h.1) (2 :: (f ++ tq_r D n1)) [true]
    exact ws_c (kS_2 (by decide) (by decide)) (ws_app (W1 := [true]) wf w1)
  · show (2 :: (f ++ tq_r D n1)).length ≤ 2000
    rw [List.length_cons, List.length_append]
    omega
  · rfl

theorem fm_253_r14 {n : Nat} (h1 : x1.toInt = D.length) (hi : D.length < 40) (X : mpX s0 b h Θ D ((14, n1, n2, n3), (ax, x), t, f)) (B : mpB s0 D.length) (hD : tq_GD h.1 D) (hG : tp_G h.1 h.2.length ((14, n1, n2, n3), (ax, x), t, f)) (hpr : tq_pr Θ D ((14, n1, n2, n3), (ax, x), t, f)) (k : ∀ s', TKm s0 s' h Θ D ((14, n1, n2, n3), (ax, x), t, f) → R s') : pl_Cl n 253 [.ref 1131, .int x1] s0 (ps_rV R) := by
  cases n with
  | zero => exact pl_At_0
  | succ n =>
  show pl_At (n + 1) 253 0 [(0, .ref 1131), (1, .int x1)] [] s0 (ps_rV R)
  obtain ⟨b1, b2, b3⟩ := B
  have hA := arh_k (g := h.1) X.1.2.2.1.2.2.1 X.1.2.2.1.2.2.2.1
  have er : (ps_a s0 1152 D.length).toInt = (4 : Int) := X.2.2.2.1.trans rfl
  have p1 : n1 < D.length := hpr.1 (of_decide_eq_true rfl)
  have e1 : (ps_a s0 1153 D.length).toInt = n1 := X.2.2.2.2.1 (of_decide_eq_true rfl)
  obtain ⟨⟨W1, w1, ne1, l1⟩, -⟩ := mprem X hD p1
  refine pl_253_0 ?_
  rw [xtn h1]
  refine fm_244 (i := D.length) (m := n1) h1 e1 (by omega) (fun v1 q1 => ?_)
  intro _
  refine ⟨fun z => absurd (show (ps_a _ 1152 D.length).toInt = (0 : Int) from xeq z) (by omega), fun _ => ?_⟩
  refine ⟨fun z => absurd (show (ps_a _ 1152 D.length).toInt = (1 : Int) from xeq z) (by omega), fun _ => ?_⟩
  refine ⟨fun z => absurd (show (ps_a _ 1152 D.length).toInt = (2 : Int) from xeq z) (by omega), fun _ => ?_⟩
  refine ⟨fun z => absurd (show (ps_a _ 1152 D.length).toInt = (3 : Int) from xeq z) (by omega), fun _ => ?_⟩
  refine ⟨fun _ => ?_, fun z => absurd (show (ps_a _ 1152 D.length).toInt = (4 : Int) from er) (xne z)⟩
  cases n with
  | zero => exact pl_At_0
  | succ n =>
  show pl_At (n + 1) 254 0 [(0, .ref 1131), (1, .int x1), (2, .int v1)] [] s0 (ps_rV _)
  -- what follows
  have fin : ∀ {n' c : Nat} {L : List Nat} {s4 : ps_S}, tq_mk h Θ D ((14, n1, n2, n3), (ax, x), t, f) = (c, L, [], [], []) → (ps_i s4 1131 50).toInt = c → mk_M s4 L → (L = [] ∨ ws (sg h.1) L [true]) → L.length ≤ 2000 → PAm s4 D.length [] 0 → TKf D.length s0 s4 → pl_At n' 253 202 [(0, .ref 1131), (1, .int x1)] [] s4 (ps_rV R) := fun {n' c L s4} hm h50 M4 hw hl P4 T4 => by
    cases n' with
    | zero => exact pl_At_0
    | succ n' =>
    refine pl_253_202 ?_
    rw [xtn h1]
    intro _
    refine fm_249k X hD hi T4 h1 p1 (show (ps_a _ 1153 D.length).toInt = n1 from (mpX_TKf X hi T4).2.2.2.2.1 (of_decide_eq_true rfl)) M4 (Or.inl ⟨rfl, rfl⟩) (by decide) P4 (fun s5 P5 K5 => ?_)
    have T5 := TKf_A T4 K5
    have M5 := mk_M_kq M4 K5.1 (by decide) (by decide)
    have er5 := (kq_a T5.1 1152 (by decide))
    intro _
    have er : (ps_a s5 1152 D.length).toInt = (4 : Int) := (mpX_TKf X hi T5).2.2.2.1.trans rfl
    refine ⟨fun _ => ?_, fun z => absurd (show (ps_a _ 1152 D.length).toInt = (3 : Int) from xeq z) (by omega)⟩
    refine k s5 (TKm_mk hm ?_ M5 hw hl P5 (by decide) (fun _ => ⟨rfl, rfl⟩) T5)
    rw [kq_i K5.1 50 (by decide)]
    exact h50
  refine pl_254_0 ?_
  rw [xtn h1]
  refine fm_247 q1 (by omega) W1 ne1 (fun v2 c hc q2 => ⟨fun z => ?_, fun z => ?_⟩)
  · have z : v2.toInt = (1 : Int) := xeq z
    have hh : (tq_r D n1).head? = some 1 := by rw [hc]; congr 1; omega
    have hm := tq_mk_14 (h := h) (Θ := Θ) (D := D) (n1 := n1) (n2 := n2) (n3 := n3) (ax := ax) (x := x) (t := t) (f := f)
    rw [if_pos hh] at hm
    obtain ⟨g1, g2, g3, g4⟩ := tq_half hA w1 hh (kS_2 (by decide) (by decide))
    refine fm_221 (i := 1) X.1.1 X.1.2.1 X.1.2.2.1 q1 (by omega) W1 rfl g3 (fun v3 q3 => ?_)
    intro _
    have el : (tq_r D n1).length = 1 + (tq_1 (arh h.1) (tq_r D n1)).length + (tq_2 (arh h.1) (tq_r D n1)).length := by
      conv => lhs; rw [g4]
      rw [List.length_cons, List.length_append]
      omega
    have e1l : (tq_1 (arh h.1) (tq_r D n1)).length = en (arh h.1) ((tq_r D n1).drop 1) 1 := by
      have := en_le hA g3 (k := 1) (by decide)
      unfold tq_1
      rw [List.length_take]
      omega
    refine ⟨fun z => absurd (show (ps_a _ 1152 D.length).toInt = (4 : Int) from er) (xne z), fun _ => ?_⟩
    refine fm_226 (a := 1) (b := 1 + en (arh h.1) ((tq_r D n1).drop 1) 1) q1 (by omega) W1 b2 rfl q3 (by omega) (by decide) (fun s4 M4 K4 => ?_)
    have eL : [] ++ ((tq_r D n1).drop 1).take (1 + en (arh h.1) ((tq_r D n1).drop 1) 1 - 1) = tq_1 (arh h.1) (tq_r D n1) := by
      unfold tq_1
      rw [show 1 + en (arh h.1) ((tq_r D n1).drop 1) 1 - 1 = en (arh h.1) ((tq_r D n1).drop 1) 1 from by omega]
      rfl
    rw [eL] at M4
    exact fin hm (by rw [kq_i K4 50 (by decide)]; exact b1) M4 (Or.inr g1) (by omega) (PAm_kq b3 K4 (by decide) (by decide)) (TKf_q TKf_refl K4 (by decide) (by decide) (by decide))
  · have z : v2.toInt ≠ (1 : Int) := xne z
    have hm := tq_mk_14 (h := h) (Θ := Θ) (D := D) (n1 := n1) (n2 := n2) (n3 := n3) (ax := ax) (x := x) (t := t) (f := f)
    rw [if_neg (fun w => by rw [hc] at w; cases w; exact z q2)] at hm
    refine fm_241 (z := 0) (c := 2) b1 rfl (fun s4 h50 K4 => ?_)
    exact fin hm h50 (mk_M_kq b2 K4 (by decide) (by decide)) (Or.inl rfl) (Nat.zero_le _) (PAm_kq b3 K4 (by decide) (by decide)) (TKf_q TKf_refl K4 (by decide) (by decide) (by decide))

theorem fm_253_r15 {n : Nat} (h1 : x1.toInt = D.length) (hi : D.length < 40) (X : mpX s0 b h Θ D ((15, n1, n2, n3), (ax, x), t, f)) (B : mpB s0 D.length) (hD : tq_GD h.1 D) (hG : tp_G h.1 h.2.length ((15, n1, n2, n3), (ax, x), t, f)) (hpr : tq_pr Θ D ((15, n1, n2, n3), (ax, x), t, f)) (k : ∀ s', TKm s0 s' h Θ D ((15, n1, n2, n3), (ax, x), t, f) → R s') : pl_Cl n 253 [.ref 1131, .int x1] s0 (ps_rV R) := by
  cases n with
  | zero => exact pl_At_0
  | succ n =>
  show pl_At (n + 1) 253 0 [(0, .ref 1131), (1, .int x1)] [] s0 (ps_rV R)
  obtain ⟨b1, b2, b3⟩ := B
  have hA := arh_k (g := h.1) X.1.2.2.1.2.2.1 X.1.2.2.1.2.2.2.1
  have er : (ps_a s0 1152 D.length).toInt = (5 : Int) := X.2.2.2.1.trans rfl
  have p1 : n1 < D.length := hpr.1 (of_decide_eq_true rfl)
  have e1 : (ps_a s0 1153 D.length).toInt = n1 := X.2.2.2.2.1 (of_decide_eq_true rfl)
  obtain ⟨⟨W1, w1, ne1, l1⟩, -⟩ := mprem X hD p1
  refine pl_253_0 ?_
  rw [xtn h1]
  refine fm_244 (i := D.length) (m := n1) h1 e1 (by omega) (fun v1 q1 => ?_)
  intro _
  refine ⟨fun z => absurd (show (ps_a _ 1152 D.length).toInt = (0 : Int) from xeq z) (by omega), fun _ => ?_⟩
  refine ⟨fun z => absurd (show (ps_a _ 1152 D.length).toInt = (1 : Int) from xeq z) (by omega), fun _ => ?_⟩
  refine ⟨fun z => absurd (show (ps_a _ 1152 D.length).toInt = (2 : Int) from xeq z) (by omega), fun _ => ?_⟩
  refine ⟨fun z => absurd (show (ps_a _ 1152 D.length).toInt = (3 : Int) from xeq z) (by omega), fun _ => ?_⟩
  refine ⟨fun z => absurd (show (ps_a _ 1152 D.length).toInt = (4 : Int) from xeq z) (by omega), fun _ => ?_⟩
  refine ⟨fun _ => ?_, fun z => absurd (show (ps_a _ 1152 D.length).toInt = (5 : Int) from er) (xne z)⟩
  cases n with
  | zero => exact pl_At_0
  | succ n =>
  show pl_At (n + 1) 254 0 [(0, .ref 1131), (1, .int x1), (2, .int v1)] [] s0 (ps_rV _)
  -- what follows
  have fin : ∀ {n' c : Nat} {L : List Nat} {s4 : ps_S}, tq_mk h Θ D ((15, n1, n2, n3), (ax, x), t, f) = (c, L, [], [], []) → (ps_i s4 1131 50).toInt = c → mk_M s4 L → (L = [] ∨ ws (sg h.1) L [true]) → L.length ≤ 2000 → PAm s4 D.length [] 0 → TKf D.length s0 s4 → pl_At n' 253 202 [(0, .ref 1131), (1, .int x1)] [] s4 (ps_rV R) := fun {n' c L s4} hm h50 M4 hw hl P4 T4 => by
    cases n' with
    | zero => exact pl_At_0
    | succ n' =>
    refine pl_253_202 ?_
    rw [xtn h1]
    intro _
    refine fm_249k X hD hi T4 h1 p1 (show (ps_a _ 1153 D.length).toInt = n1 from (mpX_TKf X hi T4).2.2.2.2.1 (of_decide_eq_true rfl)) M4 (Or.inl ⟨rfl, rfl⟩) (by decide) P4 (fun s5 P5 K5 => ?_)
    have T5 := TKf_A T4 K5
    have M5 := mk_M_kq M4 K5.1 (by decide) (by decide)
    have er5 := (kq_a T5.1 1152 (by decide))
    intro _
    have er : (ps_a s5 1152 D.length).toInt = (5 : Int) := (mpX_TKf X hi T5).2.2.2.1.trans rfl
    refine ⟨fun _ => ?_, fun z => absurd (show (ps_a _ 1152 D.length).toInt = (3 : Int) from xeq z) (by omega)⟩
    refine k s5 (TKm_mk hm ?_ M5 hw hl P5 (by decide) (fun _ => ⟨rfl, rfl⟩) T5)
    rw [kq_i K5.1 50 (by decide)]
    exact h50
  refine pl_254_0 ?_
  rw [xtn h1]
  refine fm_247 q1 (by omega) W1 ne1 (fun v2 c hc q2 => ⟨fun z => ?_, fun z => ?_⟩)
  · have z : v2.toInt = (1 : Int) := xeq z
    have hh : (tq_r D n1).head? = some 1 := by rw [hc]; congr 1; omega
    have hm := tq_mk_15 (h := h) (Θ := Θ) (D := D) (n1 := n1) (n2 := n2) (n3 := n3) (ax := ax) (x := x) (t := t) (f := f)
    rw [if_pos hh] at hm
    obtain ⟨g1, g2, g3, g4⟩ := tq_half hA w1 hh (kS_2 (by decide) (by decide))
    refine fm_221 (i := 1) X.1.1 X.1.2.1 X.1.2.2.1 q1 (by omega) W1 rfl g3 (fun v3 q3 => ?_)
    intro _
    have el : (tq_r D n1).length = 1 + (tq_1 (arh h.1) (tq_r D n1)).length + (tq_2 (arh h.1) (tq_r D n1)).length := by
      conv => lhs; rw [g4]
      rw [List.length_cons, List.length_append]
      omega
    have e1l : (tq_1 (arh h.1) (tq_r D n1)).length = en (arh h.1) ((tq_r D n1).drop 1) 1 := by
      have := en_le hA g3 (k := 1) (by decide)
      unfold tq_1
      rw [List.length_take]
      omega
    refine ⟨fun _ => ?_, fun z => absurd (show (ps_a _ 1152 D.length).toInt = (4 : Int) from xeq z) (by omega)⟩
    refine fm_219c q1 W1 (fun v4 q4 => ?_)
    refine fm_226 (a := 1 + en (arh h.1) ((tq_r D n1).drop 1) 1) (b := (tq_r D n1).length) q1 (by omega) W1 b2 q3 q4 (Nat.le_refl _) (by decide) (fun s4 M4 K4 => ?_)
    have eL : [] ++ ((tq_r D n1).drop (1 + en (arh h.1) ((tq_r D n1).drop 1) 1)).take ((tq_r D n1).length - (1 + en (arh h.1) ((tq_r D n1).drop 1) 1)) = tq_2 (arh h.1) (tq_r D n1) := by
      unfold tq_2
      rw [List.take_of_length_le (by rw [List.length_drop]; exact Nat.le_refl _), ← List.drop_drop]
      rfl
    rw [eL] at M4
    exact fin hm (by rw [kq_i K4 50 (by decide)]; exact b1) M4 (Or.inr g2) (by omega) (PAm_kq b3 K4 (by decide) (by decide)) (TKf_q TKf_refl K4 (by decide) (by decide) (by decide))
  · have z : v2.toInt ≠ (1 : Int) := xne z
    have hm := tq_mk_15 (h := h) (Θ := Θ) (D := D) (n1 := n1) (n2 := n2) (n3 := n3) (ax := ax) (x := x) (t := t) (f := f)
    rw [if_neg (fun w => by rw [hc] at w; cases w; exact z q2)] at hm
    refine fm_241 (z := 0) (c := 2) b1 rfl (fun s4 h50 K4 => ?_)
    exact fin hm h50 (mk_M_kq b2 K4 (by decide) (by decide)) (Or.inl rfl) (Nat.zero_le _) (PAm_kq b3 K4 (by decide) (by decide)) (TKf_q TKf_refl K4 (by decide) (by decide) (by decide))

end TKP
end
section
set_option maxRecDepth 100000
/-! the reference: case, apply, deduce, absurd, classic -/
-- ProofBenchModel.takesCase(I)V
theorem pl_256_0 {n : Nat} {x1 : Int32} {s : ps_S} {Q : Option Value → ps_S → Prop} (h :
  pl_Cl n 244 [.ref 1131, .int x1] s (ps_rI (fun v1 s1 =>
    pl_Cl n 247 [.ref 1131, .int v1] s1 (ps_rI (fun v2 s2 =>
      (v2 ≠ 2 →
        ((0 : Int32) = 0 →
          pl_At n 256 42 [(0, .ref 1131), (1, .int x1), (2, .int v1), (3, .int 0)] [] s2 Q) ∧
        ((0 : Int32) ≠ 0 →
          pl_Cl n 245 [.ref 1131, .int x1] s2 (ps_rI (fun v3 s3 =>
            pl_Cl n 246 [.ref 1131, .int x1] s3 (ps_rI (fun v4 s4 =>
              pl_Cl n 222 [.ref 1131, .int v3, .int v4] s4 (ps_rI (fun v5 s5 =>
                (v5 ≠ 0 →
                  pl_At n 256 47 [(0, .ref 1131), (1, .int x1), (2, .int v1), (3, .int 0)] [] s5 Q) ∧
                (v5 = 0 →
                  pl_At n 256 42 [(0, .ref 1131), (1, .int x1), (2, .int v1), (3, .int 0)] [] s5 Q))))))))) ∧
      (v2 = 2 →
        ((1 : Int32) = 0 →
          pl_At n 256 42 [(0, .ref 1131), (1, .int x1), (2, .int v1), (3, .int 1)] [] s2 Q) ∧
        ((1 : Int32) ≠ 0 →
          pl_Cl n 245 [.ref 1131, .int x1] s2 (ps_rI (fun v6 s6 =>
            pl_Cl n 246 [.ref 1131, .int x1] s6 (ps_rI (fun v7 s7 =>
              pl_Cl n 222 [.ref 1131, .int v6, .int v7] s7 (ps_rI (fun v8 s8 =>
                (v8 ≠ 0 →
                  pl_At n 256 47 [(0, .ref 1131), (1, .int x1), (2, .int v1), (3, .int 1)] [] s8 Q) ∧
                (v8 = 0 →
                  pl_At n 256 42 [(0, .ref 1131), (1, .int x1), (2, .int v1), (3, .int 1)] [] s8 Q)))))))))))))) : pl_At (n + 1) 256 0 [(0, .ref 1131), (1, .int x1)] [] s Q :=
  pl_wp_at (stops := [(42, [0, 1, 2, 3]), (47, [0, 1, 2, 3])]) (f := 38) h rfl

theorem pl_256_42 {n : Nat} {x1 : Int32} {x2 : Int32} {x3 : Int32} {s : ps_S} {Q : Option Value → ps_S → Prop} (h :
  pl_Cl n 241 [.ref 1131, .int 2] s (ps_rV (fun s1 =>
    pl_At n 256 47 [(0, .ref 1131), (1, .int x1), (2, .int x2), (3, .int x3)] [] s1 Q))) : pl_At (n + 1) 256 42 [(0, .ref 1131), (1, .int x1), (2, .int x2), (3, .int x3)] [] s Q :=
  pl_wp_at (stops := [(42, [0, 1, 2, 3]), (47, [0, 1, 2, 3])]) (f := 5) h rfl

theorem pl_256_47 {n : Nat} {x1 : Int32} {x2 : Int32} {x3 : Int32} {s : ps_S} {Q : Option Value → ps_S → Prop} (h :
  (x3 ≠ 0 →
    pl_Cl n 221 [.ref 1131, .int x2, .int 1] s (ps_rI (fun v1 s1 =>
      (pm_in x1 40 = true →
        pl_Cl n 249 [.ref 1131, .int x1, .int (ps_a s1 1153 (Int32.toNatClampNeg x1)), .int 0] s1 (ps_rV (fun s2 =>
          pl_Cl n 226 [.ref 1131, .int x2, .int 1, .int v1] s2 (ps_rV (fun s3 =>
            (pm_in x1 40 = true →
              pl_Cl n 249 [.ref 1131, .int x1, .int (ps_a s3 1154 (Int32.toNatClampNeg x1)), .int 1] s3 (ps_rV (fun s4 =>
                pl_Cl n 219 [.ref 1131, .int x2] (ps_ui s4 1131 34 0) (ps_rI (fun v5 s5 =>
                  pl_Cl n 226 [.ref 1131, .int x2, .int v1, .int v5] s5 (ps_rV (fun s6 =>
                    (pm_in x1 40 = true →
                      pl_Cl n 249 [.ref 1131, .int x1, .int (ps_a s6 1155 (Int32.toNatClampNeg x1)), .int 1] s6 (ps_rV (fun s7 =>
                        pl_Cl n 245 [.ref 1131, .int x1] (ps_ui s7 1131 34 0) (ps_rI (fun v8 s8 =>
                          pl_Cl n 227 [.ref 1131, .int v8] s8 (ps_rV (fun s9 =>
                            Q none s9)))))))))))))))))))))) ∧
  (x3 = 0 →
    Q none s)) : pl_At (n + 1) 256 47 [(0, .ref 1131), (1, .int x1), (2, .int x2), (3, .int x3)] [] s Q :=
  pl_wp_at (stops := [(42, [0, 1, 2, 3]), (47, [0, 1, 2, 3])]) (f := 58) h rfl

-- ProofBenchModel.takesLess(I)V
theorem pl_255_0 {n : Nat} {x1 : Int32} {s : ps_S} {Q : Option Value → ps_S → Prop} (h :
  pl_Cl n 244 [.ref 1131, .int x1] s (ps_rI (fun v1 s1 =>
    (pm_in x1 40 = true →
      ((ps_a s1 1152 (Int32.toNatClampNeg x1)) ≠ 8 →
        (pm_in x1 40 = true →
          ((ps_a s1 1152 (Int32.toNatClampNeg x1)) ≠ 9 →
            (pm_in x1 40 = true →
              ((ps_a s1 1152 (Int32.toNatClampNeg x1)) = 10 →
                pl_At n 255 165 [(0, .ref 1131), (1, .int x1), (2, .int v1), (3, .int ((22468 : Int32) + ((41 : Int32) * x1)))] [] s1 Q) ∧
              ((ps_a s1 1152 (Int32.toNatClampNeg x1)) ≠ 10 →
                pl_Cl n 247 [.ref 1131, .int v1] s1 (ps_rI (fun v2 s2 =>
                  (v2 = 0 →
                    pl_At n 255 165 [(0, .ref 1131), (1, .int x1), (2, .int v1), (3, .int ((22468 : Int32) + ((41 : Int32) * x1)))] [] s2 Q) ∧
                  (v2 ≠ 0 →
                    pl_Cl n 241 [.ref 1131, .int 2] s2 (ps_rV (fun s3 =>
                      pl_At n 255 165 [(0, .ref 1131), (1, .int x1), (2, .int v1), (3, .int ((22468 : Int32) + ((41 : Int32) * x1)))] [] s3 Q)))))))) ∧
          ((ps_a s1 1152 (Int32.toNatClampNeg x1)) = 9 →
            pl_Cl n 247 [.ref 1131, .int v1] s1 (ps_rI (fun v4 s4 =>
              (v4 ≠ 3 →
                pl_Cl n 226 [.ref 1131, .int v1, .int 1, .int 0] s4 (ps_rV (fun s5 =>
                  ((0 : Int32) = 0 →
                    pl_At n 255 89 [(0, .ref 1131), (1, .int x1), (2, .int v1), (4, .int 0)] [] s5 Q) ∧
                  ((0 : Int32) ≠ 0 →
                    pl_Cl n 245 [.ref 1131, .int x1] s5 (ps_rI (fun v6 s6 =>
                      pl_Cl n 230 [.ref 1131, .int v6] s6 (ps_rI (fun v7 s7 =>
                        (v7 ≠ 0 →
                          pl_At n 255 94 [(0, .ref 1131), (1, .int x1), (2, .int v1), (4, .int 0)] [] s7 Q) ∧
                        (v7 = 0 →
                          pl_At n 255 89 [(0, .ref 1131), (1, .int x1), (2, .int v1), (4, .int 0)] [] s7 Q))))))))) ∧
              (v4 = 3 →
                pl_Cl n 221 [.ref 1131, .int v1, .int 1] s4 (ps_rI (fun v8 s8 =>
                  pl_Cl n 226 [.ref 1131, .int v1, .int 1, .int v8] s8 (ps_rV (fun s9 =>
                    (v8 = 0 →
                      pl_At n 255 89 [(0, .ref 1131), (1, .int x1), (2, .int v1), (4, .int v8)] [] s9 Q) ∧
                    (v8 ≠ 0 →
                      pl_Cl n 245 [.ref 1131, .int x1] s9 (ps_rI (fun v10 s10 =>
                        pl_Cl n 230 [.ref 1131, .int v10] s10 (ps_rI (fun v11 s11 =>
                          (v11 ≠ 0 →
                            pl_At n 255 94 [(0, .ref 1131), (1, .int x1), (2, .int v1), (4, .int v8)] [] s11 Q) ∧
                          (v11 = 0 →
                            pl_At n 255 89 [(0, .ref 1131), (1, .int x1), (2, .int v1), (4, .int v8)] [] s11 Q)))))))))))))))) ∧
      ((ps_a s1 1152 (Int32.toNatClampNeg x1)) = 8 →
        pl_Cl n 256 [.ref 1131, .int x1] s1 (ps_rV (fun s12 =>
          Q none s12))))))) : pl_At (n + 1) 255 0 [(0, .ref 1131), (1, .int x1)] [] s Q :=
  pl_wp_at (stops := [(89, [0, 1, 2, 4]), (94, [0, 1, 2, 4]), (116, [0, 1]), (165, [0, 1, 2, 3]), (181, [0, 1, 2, 3]), (207, [0, 1, 2, 3]), (255, [0, 1, 2, 3])]) (f := 80) h rfl

theorem pl_255_89 {n : Nat} {x1 : Int32} {x2 : Int32} {x4 : Int32} {s : ps_S} {Q : Option Value → ps_S → Prop} (h :
  pl_Cl n 241 [.ref 1131, .int 2] s (ps_rV (fun s1 =>
    pl_At n 255 94 [(0, .ref 1131), (1, .int x1), (2, .int x2), (4, .int x4)] [] s1 Q))) : pl_At (n + 1) 255 89 [(0, .ref 1131), (1, .int x1), (2, .int x2), (4, .int x4)] [] s Q :=
  pl_wp_at (stops := [(89, [0, 1, 2, 4]), (94, [0, 1, 2, 4]), (116, [0, 1]), (165, [0, 1, 2, 3]), (181, [0, 1, 2, 3]), (207, [0, 1, 2, 3]), (255, [0, 1, 2, 3])]) (f := 5) h rfl

theorem pl_255_94 {n : Nat} {x1 : Int32} {x2 : Int32} {x4 : Int32} {s : ps_S} {Q : Option Value → ps_S → Prop} (h :
  (x4 ≤ 0 →
    pl_At n 255 116 [(0, .ref 1131), (1, .int x1)] [] (ps_ui s 1131 34 0) Q) ∧
  (0 < x4 →
    pl_Cl n 219 [.ref 1131, .int x2] (ps_ui s 1131 34 0) (ps_rI (fun v1 s1 =>
      pl_Cl n 226 [.ref 1131, .int x2, .int x4, .int v1] s1 (ps_rV (fun s2 =>
        pl_At n 255 116 [(0, .ref 1131), (1, .int x1)] [] s2 Q)))))) : pl_At (n + 1) 255 94 [(0, .ref 1131), (1, .int x1), (2, .int x2), (4, .int x4)] [] s Q :=
  pl_wp_at (stops := [(89, [0, 1, 2, 4]), (94, [0, 1, 2, 4]), (116, [0, 1]), (165, [0, 1, 2, 3]), (181, [0, 1, 2, 3]), (207, [0, 1, 2, 3]), (255, [0, 1, 2, 3])]) (f := 14) h rfl

theorem pl_255_116 {n : Nat} {x1 : Int32} {s : ps_S} {Q : Option Value → ps_S → Prop} (h :
  (pm_in x1 40 = true →
    pl_Cl n 249 [.ref 1131, .int x1, .int (ps_a s 1153 (Int32.toNatClampNeg x1)), .int 0] s (ps_rV (fun s1 =>
      (pm_in x1 40 = true →
        pl_Cl n 249 [.ref 1131, .int x1, .int (ps_a s1 1154 (Int32.toNatClampNeg x1)), .int 0] s1 (ps_rV (fun s2 =>
          Q none s2))))))) : pl_At (n + 1) 255 116 [(0, .ref 1131), (1, .int x1)] [] s Q :=
  pl_wp_at (stops := [(89, [0, 1, 2, 4]), (94, [0, 1, 2, 4]), (116, [0, 1]), (165, [0, 1, 2, 3]), (181, [0, 1, 2, 3]), (207, [0, 1, 2, 3]), (255, [0, 1, 2, 3])]) (f := 19) h rfl

theorem pl_255_165 {n : Nat} {x1 : Int32} {x2 : Int32} {x3 : Int32} {s : ps_S} {Q : Option Value → ps_S → Prop} (h :
  (pm_in x1 40 = true →
    ((ps_a s 1152 (Int32.toNatClampNeg x1)) ≠ 10 →
      pl_At n 255 181 [(0, .ref 1131), (1, .int x1), (2, .int x2), (3, .int x3)] [] s Q) ∧
    ((ps_a s 1152 (Int32.toNatClampNeg x1)) = 10 →
      pl_Cl n 227 [.ref 1131, .int x3] s (ps_rV (fun s1 =>
        pl_At n 255 181 [(0, .ref 1131), (1, .int x1), (2, .int x2), (3, .int x3)] [] s1 Q))))) : pl_At (n + 1) 255 165 [(0, .ref 1131), (1, .int x1), (2, .int x2), (3, .int x3)] [] s Q :=
  pl_wp_at (stops := [(89, [0, 1, 2, 4]), (94, [0, 1, 2, 4]), (116, [0, 1]), (165, [0, 1, 2, 3]), (181, [0, 1, 2, 3]), (207, [0, 1, 2, 3]), (255, [0, 1, 2, 3])]) (f := 11) h rfl

theorem pl_255_181 {n : Nat} {x1 : Int32} {x2 : Int32} {x3 : Int32} {s : ps_S} {Q : Option Value → ps_S → Prop} (h :
  (pm_in x1 40 = true →
    ((ps_a s 1152 (Int32.toNatClampNeg x1)) ≠ 18 →
      pl_At n 255 207 [(0, .ref 1131), (1, .int x1), (2, .int x2), (3, .int x3)] [] s Q) ∧
    ((ps_a s 1152 (Int32.toNatClampNeg x1)) = 18 →
      pl_Cl n 225 [.ref 1131, .int 3] s (ps_rV (fun s1 =>
        pl_Cl n 227 [.ref 1131, .int x3] s1 (ps_rV (fun s2 =>
          pl_Cl n 225 [.ref 1131, .int 0] s2 (ps_rV (fun s3 =>
            pl_At n 255 207 [(0, .ref 1131), (1, .int x1), (2, .int x2), (3, .int x3)] [] s3 Q))))))))) : pl_At (n + 1) 255 181 [(0, .ref 1131), (1, .int x1), (2, .int x2), (3, .int x3)] [] s Q :=
  pl_wp_at (stops := [(89, [0, 1, 2, 4]), (94, [0, 1, 2, 4]), (116, [0, 1]), (165, [0, 1, 2, 3]), (181, [0, 1, 2, 3]), (207, [0, 1, 2, 3]), (255, [0, 1, 2, 3])]) (f := 17) h rfl

theorem pl_255_207 {n : Nat} {x1 : Int32} {x2 : Int32} {x3 : Int32} {s : ps_S} {Q : Option Value → ps_S → Prop} (h :
  (pm_in x1 40 = true →
    (pm_in x1 40 = true →
      ((ps_a s 1152 (Int32.toNatClampNeg x1)) = 17 →
        pl_Cl n 249 [.ref 1131, .int x1, .int (ps_a s 1153 (Int32.toNatClampNeg x1)), .int 0] s (ps_rV (fun s1 =>
          (pm_in x1 40 = true →
            ((ps_a (ps_ui s1 1131 34 0) 1152 (Int32.toNatClampNeg x1)) ≠ 10 →
              pl_At n 255 255 [(0, .ref 1131), (1, .int x1), (2, .int x2), (3, .int x3)] [] (ps_ui s1 1131 34 0) Q) ∧
            ((ps_a (ps_ui s1 1131 34 0) 1152 (Int32.toNatClampNeg x1)) = 10 →
              pl_Cl n 225 [.ref 1131, .int 3] (ps_ui s1 1131 34 0) (ps_rV (fun s2 =>
                pl_At n 255 255 [(0, .ref 1131), (1, .int x1), (2, .int x2), (3, .int x3)] [] s2 Q))))))) ∧
      ((ps_a s 1152 (Int32.toNatClampNeg x1)) ≠ 17 →
        pl_Cl n 249 [.ref 1131, .int x1, .int (ps_a s 1153 (Int32.toNatClampNeg x1)), .int 1] s (ps_rV (fun s3 =>
          (pm_in x1 40 = true →
            ((ps_a (ps_ui s3 1131 34 0) 1152 (Int32.toNatClampNeg x1)) ≠ 10 →
              pl_At n 255 255 [(0, .ref 1131), (1, .int x1), (2, .int x2), (3, .int x3)] [] (ps_ui s3 1131 34 0) Q) ∧
            ((ps_a (ps_ui s3 1131 34 0) 1152 (Int32.toNatClampNeg x1)) = 10 →
              pl_Cl n 225 [.ref 1131, .int 3] (ps_ui s3 1131 34 0) (ps_rV (fun s4 =>
                pl_At n 255 255 [(0, .ref 1131), (1, .int x1), (2, .int x2), (3, .int x3)] [] s4 Q)))))))))) : pl_At (n + 1) 255 207 [(0, .ref 1131), (1, .int x1), (2, .int x2), (3, .int x3)] [] s Q :=
  pl_wp_at (stops := [(89, [0, 1, 2, 4]), (94, [0, 1, 2, 4]), (116, [0, 1]), (165, [0, 1, 2, 3]), (181, [0, 1, 2, 3]), (207, [0, 1, 2, 3]), (255, [0, 1, 2, 3])]) (f := 43) h rfl

theorem pl_255_255 {n : Nat} {x1 : Int32} {x2 : Int32} {x3 : Int32} {s : ps_S} {Q : Option Value → ps_S → Prop} (h :
  pl_Cl n 227 [.ref 1131, .int x3] s (ps_rV (fun s1 =>
    (pm_in x1 40 = true →
      ((ps_a s1 1152 (Int32.toNatClampNeg x1)) ≠ 10 →
        Q none s1) ∧
      ((ps_a s1 1152 (Int32.toNatClampNeg x1)) = 10 →
        pl_Cl n 227 [.ref 1131, .int x2] s1 (ps_rV (fun s2 =>
          Q none s2))))))) : pl_At (n + 1) 255 255 [(0, .ref 1131), (1, .int x1), (2, .int x2), (3, .int x3)] [] s Q :=
  pl_wp_at (stops := [(89, [0, 1, 2, 4]), (94, [0, 1, 2, 4]), (116, [0, 1]), (165, [0, 1, 2, 3]), (181, [0, 1, 2, 3]), (207, [0, 1, 2, 3]), (255, [0, 1, 2, 3])]) (f := 16) h rfl

theorem t1_is {ar : Nat → Nat} {l : List Nat} : [] ++ (l.drop 1).take (1 + en ar (l.drop 1) 1 - 1) = tq_1 ar l := by
  unfold tq_1
  rw [show 1 + en ar (l.drop 1) 1 - 1 = en ar (l.drop 1) 1 from by omega]
  rfl
theorem t2_is {ar : Nat → Nat} {l : List Nat} : [] ++ (l.drop (1 + en ar (l.drop 1) 1)).take (l.length - (1 + en ar (l.drop 1) 1)) = tq_2 ar l := by
  unfold tq_2
  rw [List.take_of_length_le (by rw [List.length_drop]; exact Nat.le_refl _), ← List.drop_drop]
  rfl
theorem TKf_0 {i : Nat} {s0 s : ps_S} (T : TKf i s0 s) : TKf i s0 (ps_ui s 1131 34 0) := TKf_q T (kqi kq_refl rfl : kq [] [34] s _) (by decide) (by decide) (by decide)
theorem PAm_0 {i bd : Nat} {s : ps_S} {A : List (List Nat)} (P : PAm s i A bd) : PAm (ps_ui s 1131 34 0) i A bd := PAm_kq P (kqi kq_refl rfl : kq [] [34] s _) (by decide) (by decide)
section TKL
variable {b n1 n2 n3 ax x : Nat} {h : tx_H} {Θ : List tq_H} {D : List tq_R} {t f : List Nat} {x1 : Int32} {s0 : ps_S} {R : ps_S → Prop}

theorem fm_256_r18 {n : Nat} (h1 : x1.toInt = D.length) (hi : D.length < 40) (X : mpX s0 b h Θ D ((18, n1, n2, n3), (ax, x), t, f)) (B : mpB s0 D.length) (hD : tq_GD h.1 D) (hG : tp_G h.1 h.2.length ((18, n1, n2, n3), (ax, x), t, f)) (hpr : tq_pr Θ D ((18, n1, n2, n3), (ax, x), t, f)) (k : ∀ s', TKm s0 s' h Θ D ((18, n1, n2, n3), (ax, x), t, f) → R s') : pl_Cl n 256 [.ref 1131, .int x1] s0 (ps_rV R) := by
  cases n with
  | zero => exact pl_At_0
  | succ n =>
  show pl_At (n + 1) 256 0 [(0, .ref 1131), (1, .int x1)] [] s0 (ps_rV R)
  obtain ⟨b1, b2, b3⟩ := B
  have hA := arh_k (g := h.1) X.1.2.2.1.2.2.1 X.1.2.2.1.2.2.2.1
  have er : (ps_a s0 1152 D.length).toInt = (8 : Int) := X.2.2.2.1.trans rfl
  have p1 : n1 < D.length := hpr.1 (of_decide_eq_true rfl)
  have e1 : (ps_a s0 1153 D.length).toInt = n1 := X.2.2.2.2.1 (of_decide_eq_true rfl)
  obtain ⟨⟨W1, w1, ne1, l1⟩, -⟩ := mprem X hD p1
  have p2 : n2 < D.length := hpr.2.1 (of_decide_eq_true rfl)
  have e2 : (ps_a s0 1154 D.length).toInt = n2 := X.2.2.2.2.2.1 (of_decide_eq_true rfl)
  obtain ⟨⟨W2, w2, ne2, l2⟩, -⟩ := mprem X hD p2
  have p3 : n3 < D.length := hpr.2.2 (of_decide_eq_true rfl)
  have e3 : (ps_a s0 1155 D.length).toInt = n3 := X.2.2.2.2.2.2.1 (of_decide_eq_true rfl)
  obtain ⟨⟨W3, w3, ne3, l3⟩, -⟩ := mprem X hD p3
  have hm := tq_mk_18 (h := h) (Θ := Θ) (D := D) (n1 := n1) (n2 := n2) (n3 := n3) (ax := ax) (x := x) (t := t) (f := f)
  have at47 : (tq_r D n1).head? = some 2 → ∀ {n' c : Nat} {s1 : ps_S} {v1 : Int32}, v1.toInt = (41 * n1 : Nat) → (ps_i s1 1131 50).toInt = c → mk_M s1 [] → PAm s1 D.length [] 0 → TKf D.length s0 s1 → (c = 0 → tq_r D n2 = tq_r D n3) → ((¬ tq_r D n2 = tq_r D n3) → c = 2) → (tq_r D n2 = tq_r D n3 → c = 0) → pl_At n' 256 47 [(0, .ref 1131), (1, .int x1), (2, .int v1), (3, .int 1)] [] s1 (ps_rV R) := fun hh {n' c s1 v1} q1 h50 M1 P1 T1 hc0 hc2 hc3 => by
    cases n' with
    | zero => exact pl_At_0
    | succ n' =>
    have X1 := mpX_TKf X hi T1
    obtain ⟨g1, g2, g3, g4⟩ := tq_half hA w1 hh (kS_2 (by decide) (by decide))
    have hle := en_le hA g3 (k := 1) (by decide)
    rw [List.length_drop] at hle
    have hl1 : 1 ≤ (tq_r D n1).length := by
      cases e : tq_r D n1 with
      | nil => exact absurd e ne1
      | cons c l => rw [List.length_cons]; omega
    have W1' := (mprem X1 hD p1).1.1
    refine pl_256_47 ⟨fun _ => ?_, fun z => absurd z (by decide)⟩
    rw [xtn h1]
    refine fm_221 (i := 1) X1.1.1 X1.1.2.1 X1.1.2.2.1 q1 (by omega) W1' rfl g3 (fun v3 q3 => ?_)
    intro _
    refine fm_249k X hD hi T1 h1 p1 (show (ps_a _ 1153 D.length).toInt = n1 from (mpX_TKf X hi T1).2.2.2.2.1 (of_decide_eq_true rfl)) M1 (Or.inl ⟨rfl, rfl⟩) (by decide) P1 (fun s2 P2 K2 => ?_)
    have T2 := TKf_A T1 K2
    have M2 := mk_M_kq M1 K2.1 (by decide) (by decide)
    have er2 := (kq_a T2.1 1152 (by decide))
    refine fm_226 (a := 1) (b := 1 + en (arh h.1) ((tq_r D n1).drop 1) 1) q1 (by omega) (mprem (mpX_TKf X hi T2) hD p1).1.1 M2 rfl q3 (by omega) (by decide) (fun s3 M3 K3 => ?_)
    rw [t1_is] at M3
    have T3 := TKf_q T2 K3 (by decide) (by decide) (by decide)
    have P3 := PAm_kq P2 K3 (by decide) (by decide)
    intro _
    refine fm_249k X hD hi T3 h1 p2 (show (ps_a _ 1154 D.length).toInt = n2 from (mpX_TKf X hi T3).2.2.2.2.2.1 (of_decide_eq_true rfl)) M3 (Or.inr ⟨by decide, rfl⟩) (by decide) P3 (fun s4 P4 K4 => ?_)
    have T4 := TKf_A T3 K4
    have M4 := mk_M_kq M3 K4.1 (by decide) (by decide)
    have er4 := (kq_a T4.1 1152 (by decide))
    refine fm_219c q1 (mprem (mpX_TKf X hi (TKf_0 T4)) hD p1).1.1 (fun v5 q5 => ?_)
    refine fm_226 (a := 1 + en (arh h.1) ((tq_r D n1).drop 1) 1) (b := (tq_r D n1).length) q1 (by omega) (mprem (mpX_TKf X hi (TKf_0 T4)) hD p1).1.1 mk_M_0 q3 q5 (Nat.le_refl _) (by decide) (fun s6 M6 K6 => ?_)
    rw [t2_is] at M6
    have T6 := TKf_q (TKf_0 T4) K6 (by decide) (by decide) (by decide)
    have P6 := PAm_kq (PAm_0 P4) K6 (by decide) (by decide)
    intro _
    refine fm_249k X hD hi T6 h1 p3 (show (ps_a _ 1155 D.length).toInt = n3 from (mpX_TKf X hi T6).2.2.2.2.2.2.1 (of_decide_eq_true rfl)) M6 (Or.inr ⟨by decide, rfl⟩) (by decide) P6 (fun s7 P7 K7 => ?_)
    have T7 := TKf_A T6 K7
    have M7 := mk_M_kq M6 K7.1 (by decide) (by decide)
    have er7 := (kq_a T7.1 1152 (by decide))
    have X7 := mpX_TKf X hi (TKf_0 T7)
    refine fm_245 (i := D.length) (m := n2) h1 (X7.2.2.2.2.2.1 (of_decide_eq_true rfl)) (by omega) (fun v8 q8 => ?_)
    refine fm_227 (l := tq_r D n2) q8 (by omega) (mprem X7 hD p2).1.1 mk_M_0 (by decide) (fun s9 M9 K9 => ?_)
    have h9 : (ps_i s9 1131 50).toInt = c := by
      rw [kq_i K9 50 (by decide)]
      show (ps_i s7 1131 50).toInt = c
      rw [kq_i K7.1 50 (by decide), kq_i K6 50 (by decide)]
      show (ps_i s4 1131 50).toInt = c
      rw [kq_i K4.1 50 (by decide), kq_i K3 50 (by decide), kq_i K2.1 50 (by decide)]
      exact h50
    by_cases hal : tq_r D n2 = tq_r D n3
    · have ec := hc3 hal
      rw [if_pos ⟨hh, hal⟩] at hm
      refine k s9 (TKm_mk hm (by rw [h9, ec]) M9 (Or.inr w2) (by show (tq_r D n2).length ≤ 2000; omega) (PAm_kq (PAm_0 P7) K9 (by decide) (by decide)) (by decide) (fun _ => ⟨rfl, rfl⟩) (TKf_q (TKf_0 T7) K9 (by decide) (by decide) (by decide)))
    · have ec := hc2 hal
      rw [if_neg (fun w => hal w.2)] at hm
      refine k s9 (TKm_mk hm (by rw [h9, ec]) M9 (Or.inr w2) (by show (tq_r D n2).length ≤ 2000; omega) (PAm_kq (PAm_0 P7) K9 (by decide) (by decide)) (by decide) (fun w => by cases w) (TKf_q (TKf_0 T7) K9 (by decide) (by decide) (by decide)))
  refine pl_256_0 (fm_244 (i := D.length) (m := n1) h1 e1 (by omega) (fun v1 q1 => fm_247 q1 (by omega) W1 ne1 (fun v2 c hc q2 => ⟨fun z => ⟨fun _ => ?_, fun w => absurd rfl w⟩, fun z => ⟨fun w => absurd w (by decide), fun _ => ?_⟩⟩)))
  · have z : v2.toInt ≠ (2 : Int) := xne z
    rw [if_neg (fun w => by rw [hc] at w; cases w.1; exact z q2)] at hm
    cases n with
    | zero => exact pl_At_0
    | succ n =>
    refine pl_256_42 (fm_241 (z := 0) (c := 2) b1 rfl (fun s4 h50 K4 => ?_))
    cases n with
    | zero => exact pl_At_0
    | succ n =>
    exact pl_256_47 ⟨fun w => absurd rfl w, fun _ => k s4 (TKm_mk hm h50 (mk_M_kq b2 K4 (by decide) (by decide)) (Or.inl rfl) (Nat.zero_le _) (PAm_kq b3 K4 (by decide) (by decide)) (by decide) (fun w => by cases w) (TKf_q TKf_refl K4 (by decide) (by decide) (by decide)))⟩
  · have z : v2.toInt = (2 : Int) := xeq z
    have hh : (tq_r D n1).head? = some 2 := by rw [hc]; congr 1; omega
    refine fm_245 (i := D.length) (m := n2) h1 e2 (by omega) (fun v3 q3 => fm_246 (i := D.length) (m := n3) h1 e3 (by omega) (fun v4 q4 => ?_))
    refine fm_222 q3 (by omega) W2 q4 (by omega) W3 (fun e => ⟨fun _ => at47 hh q1 b1 b2 b3 TKf_refl (fun _ => e) (fun w => absurd e w) (fun _ => rfl), fun w => absurd w (by decide)⟩) (fun e => ⟨fun w => absurd rfl w, fun _ => ?_⟩)
    cases n with
    | zero => exact pl_At_0
    | succ n =>
    refine pl_256_42 (fm_241 (z := 0) (c := 2) b1 rfl (fun s4 h50 K4 => ?_))
    exact at47 hh q1 h50 (mk_M_kq b2 K4 (by decide) (by decide)) (PAm_kq b3 K4 (by decide) (by decide)) (TKf_q TKf_refl K4 (by decide) (by decide) (by decide)) (fun w => by cases w) (fun _ => rfl) (fun w => absurd w e)

theorem fm_255_r18 {n : Nat} (h1 : x1.toInt = D.length) (hi : D.length < 40) (X : mpX s0 b h Θ D ((18, n1, n2, n3), (ax, x), t, f)) (B : mpB s0 D.length) (hD : tq_GD h.1 D) (hG : tp_G h.1 h.2.length ((18, n1, n2, n3), (ax, x), t, f)) (hpr : tq_pr Θ D ((18, n1, n2, n3), (ax, x), t, f)) (k : ∀ s', TKm s0 s' h Θ D ((18, n1, n2, n3), (ax, x), t, f) → R s') : pl_Cl n 255 [.ref 1131, .int x1] s0 (ps_rV R) := by
  cases n with
  | zero => exact pl_At_0
  | succ n =>
  show pl_At (n + 1) 255 0 [(0, .ref 1131), (1, .int x1)] [] s0 (ps_rV R)
  obtain ⟨b1, b2, b3⟩ := B
  have hA := arh_k (g := h.1) X.1.2.2.1.2.2.1 X.1.2.2.1.2.2.2.1
  have er : (ps_a s0 1152 D.length).toInt = (8 : Int) := X.2.2.2.1.trans rfl
  have p1 : n1 < D.length := hpr.1 (of_decide_eq_true rfl)
  have e1 : (ps_a s0 1153 D.length).toInt = n1 := X.2.2.2.2.1 (of_decide_eq_true rfl)
  obtain ⟨⟨W1, w1, ne1, l1⟩, -⟩ := mprem X hD p1
  have p2 : n2 < D.length := hpr.2.1 (of_decide_eq_true rfl)
  have e2 : (ps_a s0 1154 D.length).toInt = n2 := X.2.2.2.2.2.1 (of_decide_eq_true rfl)
  obtain ⟨⟨W2, w2, ne2, l2⟩, -⟩ := mprem X hD p2
  have p3 : n3 < D.length := hpr.2.2 (of_decide_eq_true rfl)
  have e3 : (ps_a s0 1155 D.length).toInt = n3 := X.2.2.2.2.2.2.1 (of_decide_eq_true rfl)
  obtain ⟨⟨W3, w3, ne3, l3⟩, -⟩ := mprem X hD p3
  refine pl_255_0 ?_
  rw [xtn h1]
  refine fm_244 (i := D.length) (m := n1) h1 e1 (by omega) (fun v1 q1 => ?_)
  intro _
  refine ⟨fun z => absurd (show (ps_a _ 1152 D.length).toInt = (8 : Int) from er) (xne z), fun _ => ?_⟩
  exact fm_256_r18 h1 hi X ⟨b1, b2, b3⟩ hD hG hpr k

theorem fm_255_r19 {n : Nat} (h1 : x1.toInt = D.length) (hi : D.length < 40) (X : mpX s0 b h Θ D ((19, n1, n2, n3), (ax, x), t, f)) (B : mpB s0 D.length) (hD : tq_GD h.1 D) (hG : tp_G h.1 h.2.length ((19, n1, n2, n3), (ax, x), t, f)) (hpr : tq_pr Θ D ((19, n1, n2, n3), (ax, x), t, f)) (k : ∀ s', TKm s0 s' h Θ D ((19, n1, n2, n3), (ax, x), t, f) → R s') : pl_Cl n 255 [.ref 1131, .int x1] s0 (ps_rV R) := by
  cases n with
  | zero => exact pl_At_0
  | succ n =>
  show pl_At (n + 1) 255 0 [(0, .ref 1131), (1, .int x1)] [] s0 (ps_rV R)
  obtain ⟨b1, b2, b3⟩ := B
  have hA := arh_k (g := h.1) X.1.2.2.1.2.2.1 X.1.2.2.1.2.2.2.1
  have er : (ps_a s0 1152 D.length).toInt = (9 : Int) := X.2.2.2.1.trans rfl
  have p1 : n1 < D.length := hpr.1 (of_decide_eq_true rfl)
  have e1 : (ps_a s0 1153 D.length).toInt = n1 := X.2.2.2.2.1 (of_decide_eq_true rfl)
  obtain ⟨⟨W1, w1, ne1, l1⟩, -⟩ := mprem X hD p1
  have p2 : n2 < D.length := hpr.2.1 (of_decide_eq_true rfl)
  have e2 : (ps_a s0 1154 D.length).toInt = n2 := X.2.2.2.2.2.1 (of_decide_eq_true rfl)
  obtain ⟨⟨W2, w2, ne2, l2⟩, -⟩ := mprem X hD p2
  have hm := tq_mk_19 (h := h) (Θ := Θ) (D := D) (n1 := n1) (n2 := n2) (n3 := n3) (ax := ax) (x := x) (t := t) (f := f)
  have at116 : ∀ {n' c : Nat} {L L' : List Nat} {s4 : ps_S}, tq_mk h Θ D ((19, n1, n2, n3), (ax, x), t, f) = (c, L', [], [], []) → (ps_i s4 1131 50).toInt = c → mk_M s4 L → (L = [] ∨ ws (sg h.1) L [true]) → L.length ≤ 2000 → PAm s4 D.length [] 0 → TKf D.length s0 s4 → (c = 0 → L = L') → pl_At n' 255 116 [(0, .ref 1131), (1, .int x1)] [] s4 (ps_rV R) := fun {n' c L L' s4} hm h50 M4 hw hl P4 T4 hL => by
    cases n' with
    | zero => exact pl_At_0
    | succ n' =>
    refine pl_255_116 ?_
    rw [xtn h1]
    intro _
    refine fm_249k X hD hi T4 h1 p1 (show (ps_a _ 1153 D.length).toInt = n1 from (mpX_TKf X hi T4).2.2.2.2.1 (of_decide_eq_true rfl)) M4 (Or.inl ⟨rfl, rfl⟩) (by decide) P4 (fun s5 P5 K5 => ?_)
    have T5 := TKf_A T4 K5
    have M5 := mk_M_kq M4 K5.1 (by decide) (by decide)
    have er5 := (kq_a T5.1 1152 (by decide))
    intro _
    refine fm_249k X hD hi T5 h1 p2 (show (ps_a _ 1154 D.length).toInt = n2 from (mpX_TKf X hi T5).2.2.2.2.2.1 (of_decide_eq_true rfl)) M5 (Or.inl ⟨rfl, rfl⟩) (by decide) P5 (fun s6 P6 K6 => ?_)
    have T6 := TKf_A T5 K6
    have M6 := mk_M_kq M5 K6.1 (by decide) (by decide)
    have er6 := (kq_a T6.1 1152 (by decide))
    refine k s6 (TKm_mk hm ?_ M6 hw hl P6 (by decide) (fun w => ⟨hL w, rfl⟩) T6)
    rw [kq_i K6.1 50 (by decide), kq_i K5.1 50 (by decide)]
    exact h50
  refine pl_255_0 ?_
  rw [xtn h1]
  refine fm_244 (i := D.length) (m := n1) h1 e1 (by omega) (fun v1 q1 => ?_)
  intro _
  refine ⟨fun _ => ?_, fun z => absurd (show (ps_a _ 1152 D.length).toInt = (8 : Int) from xeq z) (by omega)⟩
  intro _
  refine ⟨fun z => absurd (show (ps_a _ 1152 D.length).toInt = (9 : Int) from er) (xne z), fun _ => ?_⟩
  refine fm_247 q1 (by omega) W1 ne1 (fun v4 c hc q4 => ⟨fun z => ?_, fun z => ?_⟩)
  · have z : v4.toInt ≠ (3 : Int) := xne z
    rw [if_neg (fun w => by rw [hc] at w; cases w.1; exact z q4)] at hm
    refine fm_226 (a := 1) (b := 0) q1 (by omega) W1 b2 rfl rfl (Nat.zero_le _) (by decide) (fun s5 M5 K5 => ⟨fun _ => ?_, fun w => absurd rfl w⟩)
    have T5 : TKf D.length s0 s5 := TKf_q TKf_refl K5 (by decide) (by decide) (by decide)
    cases n with
    | zero => exact pl_At_0
    | succ n =>
    refine pl_255_89 (fm_241 (z := 0) (c := 2) (by rw [kq_i K5 50 (by decide)]; exact b1) rfl (fun s6 h50 K6 => ?_))
    cases n with
    | zero => exact pl_At_0
    | succ n =>
    refine pl_255_94 ⟨fun _ => ?_, fun w => absurd w (by decide)⟩
    exact at116 hm h50 mk_M_0 (Or.inl rfl) (Nat.zero_le _) (PAm_0 (PAm_kq (PAm_kq b3 K5 (by decide) (by decide)) K6 (by decide) (by decide))) (TKf_0 (TKf_q T5 K6 (by decide) (by decide) (by decide))) (fun w => by cases w)
  · have z : v4.toInt = (3 : Int) := xeq z
    have hh : (tq_r D n1).head? = some 3 := by rw [hc]; congr 1; omega
    obtain ⟨g1, g2, g3, g4⟩ := tq_half hA w1 hh (kS_2 (by decide) (by decide))
    have hle := en_le hA g3 (k := 1) (by decide)
    rw [List.length_drop] at hle
    have hl1 : 1 ≤ (tq_r D n1).length := by
      cases e : tq_r D n1 with
      | nil => exact absurd e ne1
      | cons c l => rw [List.length_cons]; omega
    have l2 : (tq_2 (arh h.1) (tq_r D n1)).length ≤ 2000 := by
      unfold tq_2
      rw [List.length_drop, List.length_drop]
      omega
    refine fm_221 (i := 1) X.1.1 X.1.2.1 X.1.2.2.1 q1 (by omega) W1 rfl g3 (fun v8 q8 => ?_)
    refine fm_226 (a := 1) (b := 1 + en (arh h.1) ((tq_r D n1).drop 1) 1) q1 (by omega) W1 b2 rfl q8 (by omega) (by decide) (fun s5 M5 K5 => ⟨fun w => ?_, fun _ => ?_⟩)
    · have w := xeq w
      have c0 : (0 : Int32).toInt = 0 := Int32.toInt_zero
      omega
    rw [t1_is] at M5
    have T5 : TKf D.length s0 s5 := TKf_q TKf_refl K5 (by decide) (by decide) (by decide)
    have X5 := mpX_TKf X hi T5
    have P5 := PAm_kq b3 K5 (by decide) (by decide)
    have at94 : ∀ {n' c : Nat} {L' : List Nat} {s6 : ps_S}, tq_mk h Θ D ((19, n1, n2, n3), (ax, x), t, f) = (c, L', [], [], []) → (ps_i s6 1131 50).toInt = c → PAm s6 D.length [] 0 → TKf D.length s0 s6 → (c = 0 → L' = tq_2 (arh h.1) (tq_r D n1)) → pl_At n' 255 94 [(0, .ref 1131), (1, .int x1), (2, .int v1), (4, .int v8)] [] s6 (ps_rV R) := fun {n' c L' s6} hm h50 P6 T6 hL => by
      cases n' with
      | zero => exact pl_At_0
      | succ n' =>
      refine pl_255_94 ⟨fun w => ?_, fun _ => ?_⟩
      · have w := xle w
        have c0 : (0 : Int32).toInt = 0 := Int32.toInt_zero
        omega
      have W6 := (mprem (mpX_TKf X hi (TKf_0 T6)) hD p1).1.1
      refine fm_219c q1 W6 (fun v9 q9 => ?_)
      refine fm_226 (a := 1 + en (arh h.1) ((tq_r D n1).drop 1) 1) (b := (tq_r D n1).length) q1 (by omega) W6 mk_M_0 q8 q9 (Nat.le_refl _) (by decide) (fun s7 M7 K7 => ?_)
      rw [t2_is] at M7
      exact at116 hm (by rw [kq_i K7 50 (by decide)]; exact h50) M7 (Or.inr g2) l2 (PAm_kq (PAm_0 P6) K7 (by decide) (by decide)) (TKf_q (TKf_0 T6) K7 (by decide) (by decide) (by decide)) (fun w => (hL w).symm)
    refine fm_245 (i := D.length) (m := n2) h1 (X5.2.2.2.2.2.1 (of_decide_eq_true rfl)) (by omega) (fun v10 q10 => ?_)
    have b15 : (ps_i s5 1131 50).toInt = (0 : Nat) := by rw [kq_i K5 50 (by decide)]; exact b1
    refine fm_230 q10 (by omega) (mprem X5 hD p2).1.1 M5 (fun e => ⟨fun _ => ?_, fun w => absurd w (by decide)⟩) (fun e => ⟨fun w => absurd rfl w, fun _ => ?_⟩)
    · rw [if_pos ⟨hh, e.symm⟩] at hm
      exact at94 hm b15 P5 T5 (fun _ => rfl)
    · rw [if_neg (fun w => e w.2.symm)] at hm
      cases n with
      | zero => exact pl_At_0
      | succ n =>
      refine pl_255_89 (fm_241 (z := 0) (c := 2) b15 rfl (fun s6 h50 K6 => ?_))
      exact at94 hm h50 (PAm_kq P5 K6 (by decide) (by decide)) (TKf_q T5 K6 (by decide) (by decide) (by decide)) (fun w => by cases w)

theorem fm_255_r20 {n : Nat} (h1 : x1.toInt = D.length) (hi : D.length < 40) (X : mpX s0 b h Θ D ((20, n1, n2, n3), (ax, x), t, f)) (B : mpB s0 D.length) (hD : tq_GD h.1 D) (hG : tp_G h.1 h.2.length ((20, n1, n2, n3), (ax, x), t, f)) (hpr : tq_pr Θ D ((20, n1, n2, n3), (ax, x), t, f)) (k : ∀ s', TKm s0 s' h Θ D ((20, n1, n2, n3), (ax, x), t, f) → R s') : pl_Cl n 255 [.ref 1131, .int x1] s0 (ps_rV R) := by
  cases n with
  | zero => exact pl_At_0
  | succ n =>
  show pl_At (n + 1) 255 0 [(0, .ref 1131), (1, .int x1)] [] s0 (ps_rV R)
  obtain ⟨b1, b2, b3⟩ := B
  have hA := arh_k (g := h.1) X.1.2.2.1.2.2.1 X.1.2.2.1.2.2.2.1
  have er : (ps_a s0 1152 D.length).toInt = (10 : Int) := X.2.2.2.1.trans rfl
  have p1 : n1 < D.length := hpr.1 (of_decide_eq_true rfl)
  have e1 : (ps_a s0 1153 D.length).toInt = n1 := X.2.2.2.2.1 (of_decide_eq_true rfl)
  obtain ⟨⟨W1, w1, ne1, l1⟩, -⟩ := mprem X hD p1
  obtain ⟨wf, lf⟩ : ws (sg h.1) f [true] ∧ f.length ≤ 40 := hG.2.2.1 (of_decide_eq_true rfl)
  have Wf : mv_W s0 (22468 + 41 * D.length) f := X.2.2.2.2.2.2.2.2.2.2 (of_decide_eq_true rfl)
  refine pl_255_0 ?_
  rw [xtn h1]
  refine fm_244 (i := D.length) (m := n1) h1 e1 (by omega) (fun v1 q1 => ?_)
  intro _
  refine ⟨fun _ => ?_, fun z => absurd (show (ps_a _ 1152 D.length).toInt = (8 : Int) from xeq z) (by omega)⟩
  intro _
  refine ⟨fun _ => ?_, fun z => absurd (show (ps_a _ 1152 D.length).toInt = (9 : Int) from xeq z) (by omega)⟩
  intro _
  refine ⟨fun _ => ?_, fun z => absurd (show (ps_a _ 1152 D.length).toInt = (10 : Int) from er) (xne z)⟩
  cases n with
  | zero => exact pl_At_0
  | succ n =>
  refine pl_255_165 ?_
  rw [xtn h1]
  intro _
  refine ⟨fun z => absurd (show (ps_a _ 1152 D.length).toInt = (10 : Int) from er) (xne z), fun _ => ?_⟩
  refine fm_227 (l := f) (rowF h1 hi) (by omega) Wf b2 (by decide) (fun s2 M2 K2 => ?_)
  have T2 : TKf D.length s0 s2 := TKf_q TKf_refl K2 (by decide) (by decide) (by decide)
  have P2 := PAm_kq b3 K2 (by decide) (by decide)
  clear er
  have er : (ps_a s2 1152 D.length).toInt = (10 : Int) := (mpX_TKf X hi T2).2.2.2.1.trans rfl
  cases n with
  | zero => exact pl_At_0
  | succ n =>
  refine pl_255_181 ?_
  rw [xtn h1]
  intro _
  refine ⟨fun _ => ?_, fun z => absurd (show (ps_a _ 1152 D.length).toInt = (18 : Int) from xeq z) (by omega)⟩
  cases n with
  | zero => exact pl_At_0
  | succ n =>
  refine pl_255_207 ?_
  rw [xtn h1]
  intro _
  intro _
  refine ⟨fun z => absurd (show (ps_a _ 1152 D.length).toInt = (17 : Int) from xeq z) (by omega), fun _ => ?_⟩
  refine fm_249k X hD hi T2 h1 p1 (show (ps_a _ 1153 D.length).toInt = n1 from (mpX_TKf X hi T2).2.2.2.2.1 (of_decide_eq_true rfl)) M2 (Or.inr ⟨by decide, rfl⟩) (by decide) P2 (fun s5 P5 K5 => ?_)
  have T5 := TKf_A T2 K5
  have M5 := mk_M_kq M2 K5.1 (by decide) (by decide)
  have er5 := (kq_a T5.1 1152 (by decide))
  intro _
  clear er
  have er : (ps_a s5 1152 D.length).toInt = (10 : Int) := (mpX_TKf X hi T5).2.2.2.1.trans rfl
  refine ⟨fun z => absurd (show (ps_a _ 1152 D.length).toInt = (10 : Int) from er) (xne z), fun _ => ?_⟩
  refine fm_225 (c := 3) mk_M_0 rfl (by decide) (fun s6 M6 K6 => ?_)
  have T6 := TKf_q (TKf_0 T5) K6 (by decide) (by decide) (by decide)
  cases n with
  | zero => exact pl_At_0
  | succ n =>
  refine pl_255_255 ?_
  rw [xtn h1]
  refine fm_227 (l := f) (rowF h1 hi) (by omega) ((mpX_TKf X hi T6).2.2.2.2.2.2.2.2.2.2 (of_decide_eq_true rfl)) M6 (by decide) (fun s7 M7 K7 => ?_)
  have T7 := TKf_q T6 K7 (by decide) (by decide) (by decide)
  have X7 := mpX_TKf X hi T7
  intro _
  clear er
  have er : (ps_a s7 1152 D.length).toInt = (10 : Int) := X7.2.2.2.1.trans rfl
  refine ⟨fun z => absurd (show (ps_a _ 1152 D.length).toInt = (10 : Int) from er) (xne z), fun _ => ?_⟩
  refine fm_227 (l := tq_r D n1) q1 (by omega) (mprem X7 hD p1).1.1 M7 (by rw [List.length_append]; show 1 + f.length < 50000; omega) (fun s8 M8 K8 => ?_)
  refine k s8 (TKm_mk tq_mk_20 ?_ M8 (Or.inr ?_) ?_ (PAm_kq (PAm_kq (PAm_kq (PAm_0 P5) K6 (by decide) (by decide)) K7 (by decide) (by decide)) K8 (by decide) (by decide)) (by decide) (fun _ => ⟨?_, rfl⟩) (TKf_q T7 K8 (by decide) (by decide) (by decide)))
  · rw [kq_i K8 50 (by decide), kq_i K7 50 (by decide), kq_i K6 50 (by decide)]
    show (ps_i s5 1131 50).toInt = 0
    rw [kq_i K5.1 50 (by decide), kq_i K2 50 (by decide)]
    exact b1
  · show ws (sg h.1) (3 :: (f ++ tq_r D n1)) [true]
    exact ws_c (kS_2 (by decide) (by decide)) (ws_app (W1 := [true]) wf w1)
  · show (3 :: (f ++ tq_r D n1)).length ≤ 2000
    rw [List.length_cons, List.length_append]
    omega
  · rfl

theorem fm_255_r26 {n : Nat} (h1 : x1.toInt = D.length) (hi : D.length < 40) (X : mpX s0 b h Θ D ((26, n1, n2, n3), (ax, x), t, f)) (B : mpB s0 D.length) (hD : tq_GD h.1 D) (hG : tp_G h.1 h.2.length ((26, n1, n2, n3), (ax, x), t, f)) (hpr : tq_pr Θ D ((26, n1, n2, n3), (ax, x), t, f)) (k : ∀ s', TKm s0 s' h Θ D ((26, n1, n2, n3), (ax, x), t, f) → R s') : pl_Cl n 255 [.ref 1131, .int x1] s0 (ps_rV R) := by
  cases n with
  | zero => exact pl_At_0
  | succ n =>
  show pl_At (n + 1) 255 0 [(0, .ref 1131), (1, .int x1)] [] s0 (ps_rV R)
  obtain ⟨b1, b2, b3⟩ := B
  have hA := arh_k (g := h.1) X.1.2.2.1.2.2.1 X.1.2.2.1.2.2.2.1
  have er : (ps_a s0 1152 D.length).toInt = (17 : Int) := X.2.2.2.1.trans rfl
  have p1 : n1 < D.length := hpr.1 (of_decide_eq_true rfl)
  have e1 : (ps_a s0 1153 D.length).toInt = n1 := X.2.2.2.2.1 (of_decide_eq_true rfl)
  obtain ⟨⟨W1, w1, ne1, l1⟩, -⟩ := mprem X hD p1
  obtain ⟨wf, lf⟩ : ws (sg h.1) f [true] ∧ f.length ≤ 40 := hG.2.2.1 (of_decide_eq_true rfl)
  have Wf : mv_W s0 (22468 + 41 * D.length) f := X.2.2.2.2.2.2.2.2.2.2 (of_decide_eq_true rfl)
  have hm := tq_mk_26 (h := h) (Θ := Θ) (D := D) (n1 := n1) (n2 := n2) (n3 := n3) (ax := ax) (x := x) (t := t) (f := f)
  have at165 : ∀ {n' c : Nat} {L' oo : List Nat} {s1 : ps_S} {v1 : Int32}, tq_mk h Θ D ((26, n1, n2, n3), (ax, x), t, f) = (c, L', oo, [], []) → (c = 0 → L' = f ∧ oo = []) → (ps_i s1 1131 50).toInt = c → mk_M s1 [] → PAm s1 D.length [] 0 → TKf D.length s0 s1 → pl_At n' 255 165 [(0, .ref 1131), (1, .int x1), (2, .int v1), (3, .int ((22468 : Int32) + ((41 : Int32) * x1)))] [] s1 (ps_rV R) := fun {n' c L' oo s1 v1} hm hL h50 M1 P1 T1 => by
    clear er
    have er : (ps_a s1 1152 D.length).toInt = (17 : Int) := (mpX_TKf X hi T1).2.2.2.1.trans rfl
    cases n' with
    | zero => exact pl_At_0
    | succ n' =>
    refine pl_255_165 ?_
    rw [xtn h1]
    intro _
    refine ⟨fun _ => ?_, fun z => absurd (show (ps_a _ 1152 D.length).toInt = (10 : Int) from xeq z) (by omega)⟩
    cases n' with
    | zero => exact pl_At_0
    | succ n' =>
    refine pl_255_181 ?_
    rw [xtn h1]
    intro _
    refine ⟨fun _ => ?_, fun z => absurd (show (ps_a _ 1152 D.length).toInt = (18 : Int) from xeq z) (by omega)⟩
    obtain ⟨s2, es2⟩ : ∃ s2, s2 = s1 := ⟨s1, rfl⟩
    rw [← es2] at h50 M1 P1 T1 er ⊢
    have M2 := M1
    have T2 := T1
    have P2 := P1
    have h52 := h50
    cases n' with
    | zero => exact pl_At_0
    | succ n' =>
    refine pl_255_207 ?_
    rw [xtn h1]
    intro _
    intro _
    refine ⟨fun _ => ?_, fun z => absurd (show (ps_a _ 1152 D.length).toInt = (17 : Int) from er) (xne z)⟩
    refine fm_249k X hD hi T2 h1 p1 (show (ps_a _ 1153 D.length).toInt = n1 from (mpX_TKf X hi T2).2.2.2.2.1 (of_decide_eq_true rfl)) M2 (Or.inl ⟨rfl, rfl⟩) (by decide) P2 (fun s5 P5 K5 => ?_)
    have T5 := TKf_A T2 K5
    have M5 := mk_M_kq M2 K5.1 (by decide) (by decide)
    have er5 := (kq_a T5.1 1152 (by decide))
    intro _
    clear er
    have er : (ps_a s5 1152 D.length).toInt = (17 : Int) := (mpX_TKf X hi T5).2.2.2.1.trans rfl
    refine ⟨fun _ => ?_, fun z => absurd (show (ps_a s5 1152 D.length).toInt = (10 : Int) from xeq z) (by omega)⟩
    cases n' with
    | zero => exact pl_At_0
    | succ n' =>
    refine pl_255_255 ?_
    rw [xtn h1]
    refine fm_227 (l := f) (rowF h1 hi) (by omega) ((mpX_TKf X hi (TKf_0 T5)).2.2.2.2.2.2.2.2.2.2 (of_decide_eq_true rfl)) mk_M_0 (by decide) (fun s7 M7 K7 => ?_)
    have T7 := TKf_q (TKf_0 T5) K7 (by decide) (by decide) (by decide)
    intro _
    clear er
    have er : (ps_a s7 1152 D.length).toInt = (17 : Int) := (mpX_TKf X hi T7).2.2.2.1.trans rfl
    refine ⟨fun _ => ?_, fun z => absurd (show (ps_a _ 1152 D.length).toInt = (10 : Int) from xeq z) (by omega)⟩
    refine k s7 (TKm_mk hm ?_ M7 (Or.inr wf) (by show f.length ≤ 2000; omega) (PAm_kq (PAm_0 P5) K7 (by decide) (by decide)) (by decide) (fun w => ⟨(hL w).1.symm, by rw [(hL w).2]; rfl⟩) T7)
    rw [kq_i K7 50 (by decide)]
    show (ps_i s5 1131 50).toInt = c
    rw [kq_i K5.1 50 (by decide)]
    exact h52
  refine pl_255_0 ?_
  rw [xtn h1]
  refine fm_244 (i := D.length) (m := n1) h1 e1 (by omega) (fun v1 q1 => ?_)
  intro _
  refine ⟨fun _ => ?_, fun z => absurd (show (ps_a _ 1152 D.length).toInt = (8 : Int) from xeq z) (by omega)⟩
  intro _
  refine ⟨fun _ => ?_, fun z => absurd (show (ps_a _ 1152 D.length).toInt = (9 : Int) from xeq z) (by omega)⟩
  intro _
  refine ⟨fun z => absurd (show (ps_a _ 1152 D.length).toInt = (10 : Int) from xeq z) (by omega), fun _ => ?_⟩
  refine fm_247 q1 (by omega) W1 ne1 (fun v2 c hc q2 => ⟨fun z => ?_, fun z => ?_⟩)
  · have z := xeq z
    have hh : (tq_r D n1).head? = some 0 := by
      rw [hc]
      congr 1
      have c0 : (0 : Int32).toInt = 0 := Int32.toInt_zero
      omega
    rw [if_pos hh] at hm
    exact at165 hm (fun _ => ⟨rfl, rfl⟩) b1 b2 b3 TKf_refl
  · have z := xne z
    rw [if_neg (fun w => by rw [hc] at w; cases w; exact z q2)] at hm
    refine fm_241 (z := 0) (c := 2) b1 rfl (fun s4 h50 K4 => ?_)
    exact at165 hm (fun w => by cases w) h50 (mk_M_kq b2 K4 (by decide) (by decide)) (PAm_kq b3 K4 (by decide) (by decide)) (TKf_q TKf_refl K4 (by decide) (by decide) (by decide))

theorem fm_255_r27 {n : Nat} (h1 : x1.toInt = D.length) (hi : D.length < 40) (X : mpX s0 b h Θ D ((27, n1, n2, n3), (ax, x), t, f)) (B : mpB s0 D.length) (hD : tq_GD h.1 D) (hG : tp_G h.1 h.2.length ((27, n1, n2, n3), (ax, x), t, f)) (hpr : tq_pr Θ D ((27, n1, n2, n3), (ax, x), t, f)) (k : ∀ s', TKm s0 s' h Θ D ((27, n1, n2, n3), (ax, x), t, f) → R s') : pl_Cl n 255 [.ref 1131, .int x1] s0 (ps_rV R) := by
  cases n with
  | zero => exact pl_At_0
  | succ n =>
  show pl_At (n + 1) 255 0 [(0, .ref 1131), (1, .int x1)] [] s0 (ps_rV R)
  obtain ⟨b1, b2, b3⟩ := B
  have hA := arh_k (g := h.1) X.1.2.2.1.2.2.1 X.1.2.2.1.2.2.2.1
  have er : (ps_a s0 1152 D.length).toInt = (18 : Int) := X.2.2.2.1.trans rfl
  have p1 : n1 < D.length := hpr.1 (of_decide_eq_true rfl)
  have e1 : (ps_a s0 1153 D.length).toInt = n1 := X.2.2.2.2.1 (of_decide_eq_true rfl)
  obtain ⟨⟨W1, w1, ne1, l1⟩, -⟩ := mprem X hD p1
  obtain ⟨wf, lf⟩ : ws (sg h.1) f [true] ∧ f.length ≤ 40 := hG.2.2.1 (of_decide_eq_true rfl)
  have Wf : mv_W s0 (22468 + 41 * D.length) f := X.2.2.2.2.2.2.2.2.2.2 (of_decide_eq_true rfl)
  have hm := tq_mk_27 (h := h) (Θ := Θ) (D := D) (n1 := n1) (n2 := n2) (n3 := n3) (ax := ax) (x := x) (t := t) (f := f)
  have at165 : ∀ {n' c : Nat} {L' oo : List Nat} {s1 : ps_S} {v1 : Int32}, tq_mk h Θ D ((27, n1, n2, n3), (ax, x), t, f) = (c, L', oo, [], []) → (c = 0 → L' = f ∧ oo = 3 :: (f ++ [0])) → (ps_i s1 1131 50).toInt = c → mk_M s1 [] → PAm s1 D.length [] 0 → TKf D.length s0 s1 → pl_At n' 255 165 [(0, .ref 1131), (1, .int x1), (2, .int v1), (3, .int ((22468 : Int32) + ((41 : Int32) * x1)))] [] s1 (ps_rV R) := fun {n' c L' oo s1 v1} hm hL h50 M1 P1 T1 => by
    clear er
    have er : (ps_a s1 1152 D.length).toInt = (18 : Int) := (mpX_TKf X hi T1).2.2.2.1.trans rfl
    cases n' with
    | zero => exact pl_At_0
    | succ n' =>
    refine pl_255_165 ?_
    rw [xtn h1]
    intro _
    refine ⟨fun _ => ?_, fun z => absurd (show (ps_a _ 1152 D.length).toInt = (10 : Int) from xeq z) (by omega)⟩
    cases n' with
    | zero => exact pl_At_0
    | succ n' =>
    refine pl_255_181 ?_
    rw [xtn h1]
    intro _
    refine ⟨fun z => absurd (show (ps_a _ 1152 D.length).toInt = (18 : Int) from er) (xne z), fun _ => ?_⟩
    refine fm_225 (c := 3) M1 rfl (by decide) (fun s6 M6 K6 => ?_)
    have T6 := TKf_q T1 K6 (by decide) (by decide) (by decide)
    refine fm_227 (l := f) (rowF h1 hi) (by omega) ((mpX_TKf X hi T6).2.2.2.2.2.2.2.2.2.2 (of_decide_eq_true rfl)) M6 (by decide) (fun s7 M7 K7 => ?_)
    have T7 := TKf_q T6 K7 (by decide) (by decide) (by decide)
    refine fm_225 (c := 0) M7 rfl (by rw [List.length_append]; show 1 + f.length < 100000; omega) (fun s2 M2 K2 => ?_)
    have T2 := TKf_q T7 K2 (by decide) (by decide) (by decide)
    have P2 := PAm_kq (PAm_kq (PAm_kq P1 K6 (by decide) (by decide)) K7 (by decide) (by decide)) K2 (by decide) (by decide)
    have h52 : (ps_i s2 1131 50).toInt = c := by
      rw [kq_i K2 50 (by decide), kq_i K7 50 (by decide), kq_i K6 50 (by decide)]
      exact h50
    have eM : [] ++ [3] ++ f ++ [0] = 3 :: (f ++ [0]) := rfl
    rw [eM] at M2
    clear er
    have er : (ps_a s2 1152 D.length).toInt = (18 : Int) := (mpX_TKf X hi T2).2.2.2.1.trans rfl
    cases n' with
    | zero => exact pl_At_0
    | succ n' =>
    refine pl_255_207 ?_
    rw [xtn h1]
    intro _
    intro _
    refine ⟨fun z => absurd (show (ps_a _ 1152 D.length).toInt = (17 : Int) from xeq z) (by omega), fun _ => ?_⟩
    refine fm_249k X hD hi T2 h1 p1 (show (ps_a _ 1153 D.length).toInt = n1 from (mpX_TKf X hi T2).2.2.2.2.1 (of_decide_eq_true rfl)) M2 (Or.inr ⟨by decide, rfl⟩) (by decide) P2 (fun s5 P5 K5 => ?_)
    have T5 := TKf_A T2 K5
    have M5 := mk_M_kq M2 K5.1 (by decide) (by decide)
    have er5 := (kq_a T5.1 1152 (by decide))
    intro _
    clear er
    have er : (ps_a s5 1152 D.length).toInt = (18 : Int) := (mpX_TKf X hi T5).2.2.2.1.trans rfl
    refine ⟨fun _ => ?_, fun z => absurd (show (ps_a s5 1152 D.length).toInt = (10 : Int) from xeq z) (by omega)⟩
    cases n' with
    | zero => exact pl_At_0
    | succ n' =>
    refine pl_255_255 ?_
    rw [xtn h1]
    refine fm_227 (l := f) (rowF h1 hi) (by omega) ((mpX_TKf X hi (TKf_0 T5)).2.2.2.2.2.2.2.2.2.2 (of_decide_eq_true rfl)) mk_M_0 (by decide) (fun s7 M7 K7 => ?_)
    have T7 := TKf_q (TKf_0 T5) K7 (by decide) (by decide) (by decide)
    intro _
    clear er
    have er : (ps_a s7 1152 D.length).toInt = (18 : Int) := (mpX_TKf X hi T7).2.2.2.1.trans rfl
    refine ⟨fun _ => ?_, fun z => absurd (show (ps_a _ 1152 D.length).toInt = (10 : Int) from xeq z) (by omega)⟩
    refine k s7 (TKm_mk hm ?_ M7 (Or.inr wf) (by show f.length ≤ 2000; omega) (PAm_kq (PAm_0 P5) K7 (by decide) (by decide)) (by decide) (fun w => ⟨(hL w).1.symm, by rw [(hL w).2]; rfl⟩) T7)
    rw [kq_i K7 50 (by decide)]
    show (ps_i s5 1131 50).toInt = c
    rw [kq_i K5.1 50 (by decide)]
    exact h52
  refine pl_255_0 ?_
  rw [xtn h1]
  refine fm_244 (i := D.length) (m := n1) h1 e1 (by omega) (fun v1 q1 => ?_)
  intro _
  refine ⟨fun _ => ?_, fun z => absurd (show (ps_a _ 1152 D.length).toInt = (8 : Int) from xeq z) (by omega)⟩
  intro _
  refine ⟨fun _ => ?_, fun z => absurd (show (ps_a _ 1152 D.length).toInt = (9 : Int) from xeq z) (by omega)⟩
  intro _
  refine ⟨fun z => absurd (show (ps_a _ 1152 D.length).toInt = (10 : Int) from xeq z) (by omega), fun _ => ?_⟩
  refine fm_247 q1 (by omega) W1 ne1 (fun v2 c hc q2 => ⟨fun z => ?_, fun z => ?_⟩)
  · have z := xeq z
    have hh : (tq_r D n1).head? = some 0 := by
      rw [hc]
      congr 1
      have c0 : (0 : Int32).toInt = 0 := Int32.toInt_zero
      omega
    rw [if_pos hh] at hm
    exact at165 hm (fun _ => ⟨rfl, rfl⟩) b1 b2 b3 TKf_refl
  · have z := xne z
    rw [if_neg (fun w => by rw [hc] at w; cases w; exact z q2)] at hm
    refine fm_241 (z := 0) (c := 2) b1 rfl (fun s4 h50 K4 => ?_)
    exact at165 hm (fun w => by cases w) h50 (mk_M_kq b2 K4 (by decide) (by decide)) (PAm_kq b3 K4 (by decide) (by decide)) (TKf_q TKf_refl K4 (by decide) (by decide) (by decide))

end TKL
end
section
set_option maxRecDepth 100000
/-! the reference: equals replaced -/
-- ProofBenchModel.isReplaced(III)Z
theorem pl_260_0 {n : Nat} {x1 : Int32} {x2 : Int32} {x3 : Int32} {s : ps_S} {Q : Option Value → ps_S → Prop} (h :
  pl_Cl n 221 [.ref 1131, .int x1, .int 1] s (ps_rI (fun v1 s1 =>
    pl_At n 260 14 [(0, .ref 1131), (1, .int x1), (2, .int x2), (3, .int x3), (4, .int v1), (5, .int 0), (6, .int 0)] [] s1 Q))) : pl_At (n + 1) 260 0 [(0, .ref 1131), (1, .int x1), (2, .int x2), (3, .int x3)] [] s Q :=
  pl_wp_at (stops := [(14, [0, 1, 2, 3, 4, 5, 6]), (66, [0, 1, 2, 3, 4, 5, 6]), (111, [0, 1, 2, 3, 4, 5, 6, 7]), (162, [0, 1, 2, 3, 4, 5, 6]), (190, [0, 2, 3, 5, 6])]) (f := 11) h rfl

theorem pl_260_14 {n : Nat} {x1 : Int32} {x2 : Int32} {x3 : Int32} {x4 : Int32} {x5 : Int32} {x6 : Int32} {s : ps_S} {Q : Option Value → ps_S → Prop} (h :
  pl_Cl n 219 [.ref 1131, .int x2] s (ps_rI (fun v1 s1 =>
    (v1 ≤ x5 →
      pl_At n 260 190 [(0, .ref 1131), (2, .int x2), (3, .int x3), (5, .int x5), (6, .int x6)] [] s1 Q) ∧
    (x5 < v1 →
      pl_Cl n 219 [.ref 1131, .int x3] s1 (ps_rI (fun v2 s2 =>
        (v2 ≤ x6 →
          pl_At n 260 190 [(0, .ref 1131), (2, .int x2), (3, .int x3), (5, .int x5), (6, .int x6)] [] s2 Q) ∧
        (x6 < v2 →
          pl_Cl n 220 [.ref 1131, .int x2, .int x5] s2 (ps_rI (fun v3 s3 =>
            (v3 < 20 →
              pl_At n 260 66 [(0, .ref 1131), (1, .int x1), (2, .int x2), (3, .int x3), (4, .int x4), (5, .int x5), (6, .int x6)] [] s3 Q) ∧
            (20 ≤ v3 →
              pl_Cl n 259 [.ref 1131, .int x1, .int 1, .int (x4 - 1), .int x2, .int x5] s3 (ps_rI (fun v4 s4 =>
                (v4 = 0 →
                  pl_At n 260 66 [(0, .ref 1131), (1, .int x1), (2, .int x2), (3, .int x3), (4, .int x4), (5, .int x5), (6, .int x6)] [] s4 Q) ∧
                (v4 ≠ 0 →
                  ((1 : Int32) = 0 →
                    pl_At n 260 111 [(0, .ref 1131), (1, .int x1), (2, .int x2), (3, .int x3), (4, .int x4), (5, .int x5), (6, .int x6), (7, .int 1)] [] s4 Q) ∧
                  ((1 : Int32) ≠ 0 →
                    pl_Cl n 259 [.ref 1131, .int x1, .int 1, .int (x4 - 1), .int x3, .int x6] s4 (ps_rI (fun v5 s5 =>
                      (v5 = 0 →
                        pl_At n 260 111 [(0, .ref 1131), (1, .int x1), (2, .int x2), (3, .int x3), (4, .int x4), (5, .int x5), (6, .int x6), (7, .int 1)] [] s5 Q) ∧
                      (v5 ≠ 0 →
                        pl_At n 260 14 [(0, .ref 1131), (1, .int x1), (2, .int x2), (3, .int x3), (4, .int x4), (5, .int (x5 + (x4 - 1))), (6, .int (x6 + (x4 - 1)))] [] s5 Q))))))))))))))))) : pl_At (n + 1) 260 14 [(0, .ref 1131), (1, .int x1), (2, .int x2), (3, .int x3), (4, .int x4), (5, .int x5), (6, .int x6)] [] s Q :=
  pl_wp_at (stops := [(14, [0, 1, 2, 3, 4, 5, 6]), (66, [0, 1, 2, 3, 4, 5, 6]), (111, [0, 1, 2, 3, 4, 5, 6, 7]), (162, [0, 1, 2, 3, 4, 5, 6]), (190, [0, 2, 3, 5, 6])]) (f := 57) h rfl

theorem pl_260_66 {n : Nat} {x1 : Int32} {x2 : Int32} {x3 : Int32} {x4 : Int32} {x5 : Int32} {x6 : Int32} {s : ps_S} {Q : Option Value → ps_S → Prop} (h :
  ((0 : Int32) = 0 →
    pl_At n 260 111 [(0, .ref 1131), (1, .int x1), (2, .int x2), (3, .int x3), (4, .int x4), (5, .int x5), (6, .int x6), (7, .int 0)] [] s Q) ∧
  ((0 : Int32) ≠ 0 →
    pl_Cl n 259 [.ref 1131, .int x1, .int 1, .int (x4 - 1), .int x3, .int x6] s (ps_rI (fun v1 s1 =>
      (v1 = 0 →
        pl_At n 260 111 [(0, .ref 1131), (1, .int x1), (2, .int x2), (3, .int x3), (4, .int x4), (5, .int x5), (6, .int x6), (7, .int 0)] [] s1 Q) ∧
      (v1 ≠ 0 →
        pl_At n 260 14 [(0, .ref 1131), (1, .int x1), (2, .int x2), (3, .int x3), (4, .int x4), (5, .int (x5 + (x4 - 1))), (6, .int (x6 + (x4 - 1)))] [] s1 Q))))) : pl_At (n + 1) 260 66 [(0, .ref 1131), (1, .int x1), (2, .int x2), (3, .int x3), (4, .int x4), (5, .int x5), (6, .int x6)] [] s Q :=
  pl_wp_at (stops := [(14, [0, 1, 2, 3, 4, 5, 6]), (66, [0, 1, 2, 3, 4, 5, 6]), (111, [0, 1, 2, 3, 4, 5, 6, 7]), (162, [0, 1, 2, 3, 4, 5, 6]), (190, [0, 2, 3, 5, 6])]) (f := 30) h rfl

theorem pl_260_111 {n : Nat} {x1 : Int32} {x2 : Int32} {x3 : Int32} {x4 : Int32} {x5 : Int32} {x6 : Int32} {x7 : Int32} {s : ps_S} {Q : Option Value → ps_S → Prop} (h :
  (x7 = 0 →
    pl_At n 260 162 [(0, .ref 1131), (1, .int x1), (2, .int x2), (3, .int x3), (4, .int x4), (5, .int x5), (6, .int x6)] [] s Q) ∧
  (x7 ≠ 0 →
    pl_Cl n 219 [.ref 1131, .int x1] s (ps_rI (fun v1 s1 =>
      pl_Cl n 259 [.ref 1131, .int x1, .int x4, .int (v1 - x4), .int x3, .int x6] s1 (ps_rI (fun v2 s2 =>
        (v2 = 0 →
          pl_At n 260 162 [(0, .ref 1131), (1, .int x1), (2, .int x2), (3, .int x3), (4, .int x4), (5, .int x5), (6, .int x6)] [] s2 Q) ∧
        (v2 ≠ 0 →
          pl_Cl n 219 [.ref 1131, .int x1] s2 (ps_rI (fun v3 s3 =>
            pl_At n 260 14 [(0, .ref 1131), (1, .int x1), (2, .int x2), (3, .int x3), (4, .int x4), (5, .int (x5 + (x4 - 1))), (6, .int (x6 + (v3 - x4)))] [] s3 Q))))))))) : pl_At (n + 1) 260 111 [(0, .ref 1131), (1, .int x1), (2, .int x2), (3, .int x3), (4, .int x4), (5, .int x5), (6, .int x6), (7, .int x7)] [] s Q :=
  pl_wp_at (stops := [(14, [0, 1, 2, 3, 4, 5, 6]), (66, [0, 1, 2, 3, 4, 5, 6]), (111, [0, 1, 2, 3, 4, 5, 6, 7]), (162, [0, 1, 2, 3, 4, 5, 6]), (190, [0, 2, 3, 5, 6])]) (f := 32) h rfl

theorem pl_260_162 {n : Nat} {x1 : Int32} {x2 : Int32} {x3 : Int32} {x4 : Int32} {x5 : Int32} {x6 : Int32} {s : ps_S} {Q : Option Value → ps_S → Prop} (h :
  pl_Cl n 220 [.ref 1131, .int x2, .int x5] s (ps_rI (fun v1 s1 =>
    pl_Cl n 220 [.ref 1131, .int x3, .int x6] s1 (ps_rI (fun v2 s2 =>
      (v1 = v2 →
        pl_At n 260 14 [(0, .ref 1131), (1, .int x1), (2, .int x2), (3, .int x3), (4, .int x4), (5, .int (x5 + 1)), (6, .int (x6 + 1))] [] s2 Q) ∧
      (v1 ≠ v2 →
        Q (some (.int 0)) s2)))))) : pl_At (n + 1) 260 162 [(0, .ref 1131), (1, .int x1), (2, .int x2), (3, .int x3), (4, .int x4), (5, .int x5), (6, .int x6)] [] s Q :=
  pl_wp_at (stops := [(14, [0, 1, 2, 3, 4, 5, 6]), (66, [0, 1, 2, 3, 4, 5, 6]), (111, [0, 1, 2, 3, 4, 5, 6, 7]), (162, [0, 1, 2, 3, 4, 5, 6]), (190, [0, 2, 3, 5, 6])]) (f := 16) h rfl

theorem pl_260_190 {n : Nat} {x2 : Int32} {x3 : Int32} {x5 : Int32} {x6 : Int32} {s : ps_S} {Q : Option Value → ps_S → Prop} (h :
  pl_Cl n 219 [.ref 1131, .int x2] s (ps_rI (fun v1 s1 =>
    (x5 ≠ v1 →
      Q (some (.int 0)) s1) ∧
    (x5 = v1 →
      pl_Cl n 219 [.ref 1131, .int x3] s1 (ps_rI (fun v2 s2 =>
        (x6 ≠ v2 →
          Q (some (.int 0)) s2) ∧
        (x6 = v2 →
          Q (some (.int 1)) s2))))))) : pl_At (n + 1) 260 190 [(0, .ref 1131), (2, .int x2), (3, .int x3), (5, .int x5), (6, .int x6)] [] s Q :=
  pl_wp_at (stops := [(14, [0, 1, 2, 3, 4, 5, 6]), (66, [0, 1, 2, 3, 4, 5, 6]), (111, [0, 1, 2, 3, 4, 5, 6, 7]), (162, [0, 1, 2, 3, 4, 5, 6]), (190, [0, 2, 3, 5, 6])]) (f := 19) h rfl

section RPL
variable {s t : List Nat}
theorem tq_rp_fuel (hs : 1 ≤ s.length) : ∀ {n m : Nat} {b f : List Nat}, b.length ≤ n → b.length ≤ m → tq_rp s t n b f → tq_rp s t m b f
  | 0, 0, _, _, _, _, q => q
  | 0, _ + 1, _, _, _, _, q => Or.inl q
  | _ + 1, 0, b, _, _, h', q => by
    rcases q with q | ⟨q, -⟩
    · exact q
    · cases b with
      | nil => exact absurd rfl q
      | cons c b => rw [List.length_cons] at h'; omega
  | n + 1, m + 1, b, f, h, h', q => by
    rcases q with q | ⟨q1, q2, q3⟩
    · exact Or.inl q
    · have hb : 1 ≤ b.length := by
        cases b with
        | nil => exact absurd rfl q1
        | cons c b => rw [List.length_cons]; omega
      refine Or.inr ⟨q1, q2, ?_⟩
      rcases q3 with ⟨a1, a2, a3⟩ | ⟨a1, a2, a3⟩
      · exact Or.inl ⟨a1, a2, tq_rp_fuel hs (by rw [List.length_drop]; omega) (by rw [List.length_drop]; omega) a3⟩
      · exact Or.inr ⟨a1, a2, tq_rp_fuel hs (by rw [List.length_drop]; omega) (by rw [List.length_drop]; omega) a3⟩
theorem tq_rp_end {n : Nat} {b f : List Nat} (h : b = [] ∨ f = []) : tq_rp s t n b f ↔ b = [] ∧ f = [] := by
  cases n with
  | zero => exact Iff.rfl
  | succ n =>
    constructor
    · intro q
      rcases q with q | ⟨q1, q2, -⟩
      · exact q
      · rcases h with h | h
        · exact absurd h q1
        · exact absurd h q2
    · exact Or.inl
theorem tq_rp_one (hs : 1 ≤ s.length) {b f : List Nat} (h40 : b.length ≤ 40) (hb : b ≠ []) (hf : f ≠ []) (hh : b.head? = f.head?) (hn : ¬ (b.take s.length = s ∧ f.take t.length = t)) : tq_rp s t 40 b f ↔ tq_rp s t 40 (b.drop 1) (f.drop 1) := by
  have hl : 1 ≤ b.length := by
    cases b with
    | nil => exact absurd rfl hb
    | cons c b => rw [List.length_cons]; omega
  constructor
  · intro q
    have q : tq_rp s t (39 + 1) b f := q
    rcases q with q | ⟨-, -, q⟩
    · exact absurd q.1 hb
    · rcases q with ⟨a1, a2, -⟩ | ⟨-, -, a3⟩
      · exact absurd ⟨a1, a2⟩ hn
      · exact tq_rp_fuel (n := 39) (m := 40) hs (by rw [List.length_drop]; omega) (by rw [List.length_drop]; omega) a3
  · intro q
    show tq_rp s t (39 + 1) b f
    exact Or.inr ⟨hb, hf, Or.inr ⟨hn, hh, tq_rp_fuel (n := 40) (m := 39) hs (by rw [List.length_drop]; omega) (by rw [List.length_drop]; omega) q⟩⟩
theorem tq_rp_ne {b f : List Nat} (hb : b ≠ []) (hh : b.head? ≠ f.head?) (hn : ¬ (b.take s.length = s ∧ f.take t.length = t)) : ¬ tq_rp s t 40 b f := fun q => by
  have q : tq_rp s t (39 + 1) b f := q
  rcases q with q | ⟨-, -, q⟩
  · exact absurd q.1 hb
  · rcases q with ⟨a1, a2, -⟩ | ⟨-, a2, -⟩
    · exact hn ⟨a1, a2⟩
    · exact hh a2
theorem tq_rp_two (hs : 1 ≤ s.length) {b f : List Nat} (h40 : b.length ≤ 40) (hb : b ≠ []) (hf : f ≠ []) (h1 : b.take s.length = s) (h2 : f.take t.length = t) : tq_rp s t 40 b f ↔ tq_rp s t 40 (b.drop s.length) (f.drop t.length) := by
  constructor
  · intro q
    have q : tq_rp s t (39 + 1) b f := q
    rcases q with q | ⟨-, -, q⟩
    · exact absurd q.1 hb
    · rcases q with ⟨-, -, a3⟩ | ⟨a1, -, -⟩
      · exact tq_rp_fuel (n := 39) (m := 40) hs (by rw [List.length_drop]; omega) (by rw [List.length_drop]; omega) a3
      · exact absurd ⟨h1, h2⟩ a1
  · intro q
    show tq_rp s t (39 + 1) b f
    exact Or.inr ⟨hb, hf, Or.inl ⟨h1, h2, tq_rp_fuel (n := 40) (m := 39) hs (by rw [List.length_drop]; omega) (by rw [List.length_drop]; omega) q⟩⟩
end RPL
theorem en_app1 {σ : mSig} {ar : Nat → Nat} (hA : ArW σ ar) {l r : List Nat} {W : List Bool} (h : ws σ l W) (hW : 1 ≤ W.length) : en ar (l ++ r) 1 = en ar l 1 := by
  cases W with
  | nil => exact absurd hW (by decide)
  | cons b W =>
    have g2 : ws σ (l.take (en ar l 1)) [b] := (en_rest hA (k := 1) h hW).2
    have e := en_p1 hA (r := l.drop (en ar l 1) ++ r) g2
    rw [← List.append_assoc, List.take_append_drop] at e
    rw [e, List.length_take]
    have := en_le hA (k := 1) h hW
    omega
/-- no row of one term begins with another -/
theorem ws_pre {σ : mSig} {ar : Nat → Nat} (hA : ArW σ ar) {s t f : List Nat} {a b : Bool} (hs : ws σ s [a]) (ht : ws σ t [b]) (h1 : f.take s.length = s) (h2 : f.take t.length = t) : s = t := by
  have e1 := en_p1 hA (r := f.drop s.length) hs
  have e2 := en_p1 hA (r := f.drop t.length) ht
  have d1 : s ++ f.drop s.length = f := by
    conv => lhs; lhs; rw [← h1]
    exact List.take_append_drop _ _
  have d2 : t ++ f.drop t.length = f := by
    conv => lhs; lhs; rw [← h2]
    exact List.take_append_drop _ _
  rw [d1] at e1
  rw [d2] at e2
  rw [← h1, ← h2, ← e1, ← e2]
theorem tq_rp_skip {σ : mSig} {ar : Nat → Nat} (hA : ArW σ ar) {s t : List Nat} (hs : ws σ s [false]) (ht : ws σ t [false]) {b f : List Nat} (h40 : b.length ≤ 40) (hb : b.take s.length = s) (hf : f.take s.length = s) : tq_rp s t 40 b f ↔ tq_rp s t 40 (b.drop s.length) (f.drop s.length) := by
  obtain ⟨c0, s0, es⟩ := ws_ne hs
  have hs1 : 1 ≤ s.length := by rw [es, List.length_cons]; omega
  have lb : s.length ≤ b.length := by
    have := congrArg List.length hb
    rw [List.length_take] at this
    omega
  have lf : s.length ≤ f.length := by
    have := congrArg List.length hf
    rw [List.length_take] at this
    omega
  have ne : ∀ {l : List Nat} {k : Nat}, k < l.length → l.drop k ≠ [] := fun {l k} h z => by
    have := congrArg List.length z
    rw [List.length_drop] at this
    have e0 : ([] : List Nat).length = 0 := rfl
    omega
  by_cases hne : s = t
  · subst hne
    have b0 := ne (l := b) (k := 0) (by omega)
    have f0 := ne (l := f) (k := 0) (by omega)
    rw [List.drop_zero] at b0 f0
    exact tq_rp_two hs1 h40 b0 f0 hb hf
  · have key : ∀ k, k ≤ s.length → (tq_rp s t 40 b f ↔ tq_rp s t 40 (b.drop k) (f.drop k)) := by
      intro k
      induction k with
      | zero =>
        intro _
        rw [List.drop_zero, List.drop_zero]
      | succ k ih =>
        intro hk
        refine (ih (by omega)).trans ?_
        have hsk : k < s.length := hk
        obtain ⟨c, hc⟩ : ∃ c, s[k]? = some c := ⟨_, List.getElem?_eq_getElem hsk⟩
        have gb : b[k]? = some c := by
          rw [← hb, List.getElem?_take, if_pos hsk] at hc
          exact hc
        have gf : f[k]? = some c := by
          rw [← hf, List.getElem?_take, if_pos hsk] at hc
          exact hc
        have st := tq_rp_one (t := t) hs1 (b := b.drop k) (f := f.drop k) (by rw [List.length_drop]; omega) (ne (by omega)) (ne (by omega)) (by rw [drop_g gb, drop_g gf]; rfl) (fun z => ?_)
        · rw [List.drop_drop, List.drop_drop] at st
          exact st
        · obtain ⟨z1, z2⟩ := z
          rcases Nat.eq_zero_or_pos k with k0 | k0
          · rw [k0, List.drop_zero] at z2
            exact hne (ws_pre hA hs ht hf z2)
          · obtain ⟨W', hW⟩ := ws_drop k hs
            have hc' := drop_g hc
            rw [hc'] at hW
            obtain ⟨bb, W2, ks, e, -, -⟩ := ws_cons.mp hW
            rw [← hc'] at hW
            have q1 := en_app1 hA (r := b.drop s.length) hW (by rw [e, List.length_cons]; omega)
            have q2 := en_le hA (k := 1) hW (by rw [e, List.length_cons]; omega)
            rw [List.length_drop] at q2
            have d1 : s.drop k ++ b.drop s.length = b.drop k := by
              have d0 : s ++ b.drop s.length = b := by
                conv => lhs; lhs; rw [← hb]
                exact List.take_append_drop _ _
              conv => rhs; rw [← d0]
              rw [List.drop_append_of_le_length (by omega)]
            have d2 : s ++ (b.drop k).drop s.length = b.drop k := by
              conv => lhs; lhs; rw [← z1]
              exact List.take_append_drop _ _
            have q3 := en_p1 hA (r := (b.drop k).drop s.length) hs
            rw [d2] at q3
            rw [d1] at q1
            omega
    exact key s.length (Nat.le_refl _)
section RP
variable {ta tb tf bk : Nat} {g : tx_g} {u v lb lf : List Nat} {x1 x2 x3 x4 : Int32} {s : ps_S} {R : Int32 → ps_S → Prop}
theorem fm_260_14 (hA : ArW (sg g) (arh g)) (hu : ws (sg g) u [false]) (hv : ws (sg g) v [false]) (h1 : x1.toInt = ta) (hta : ta < 27400) (Wa : mv_W s ta (6 :: (u ++ v))) (h2 : x2.toInt = tb) (htb : tb < 27400) (Wb : mv_W s tb lb) (h3 : x3.toInt = tf) (htf : tf < 27400) (Wf : mv_W s tf lf) (h4 : x4.toInt = (1 + u.length : Nat)) (k1 : tq_rp u v 40 lb lf → R 1 s) (k0 : ¬ tq_rp u v 40 lb lf → R 0 s) : ∀ (n : Nat) {x5 x6 : Int32} {i j : Nat}, x5.toInt = i → x6.toInt = j → i ≤ lb.length → j ≤ lf.length → (tq_rp u v 40 lb lf ↔ tq_rp u v 40 (lb.drop i) (lf.drop j)) → pl_At n 260 14 [(0, .ref 1131), (1, .int x1), (2, .int x2), (3, .int x3), (4, .int x4), (5, .int x5), (6, .int x6)] [] s (ps_rI R)
  | 0, _, _, _, _, _, _, _, _, _ => pl_At_0
  | n + 1, x5, x6, i, j, h5, h6, hi, hj, hrp => by
    have b40 := Wb.2.1
    have f40 := Wf.2.1
    have a40 := Wa.2.1
    have c1 : (1 : Int32).toInt = 1 := by decide
    have c20 : (20 : Int32).toInt = 20 := by decide
    have la : (6 :: (u ++ v)).length = 1 + u.length + v.length := by
      rw [List.length_cons, List.length_append]
      omega
    rw [la] at a40
    obtain ⟨cu, u0, eu⟩ := ws_ne hu
    have hu1 : 1 ≤ u.length := by rw [eu, List.length_cons]; omega
    have e4 : (x4 - 1).toInt = (u.length : Nat) := by rw [xIs (by omega) (by omega), h4, c1]; omega
    have ea1 : ((6 :: (u ++ v)).drop 1).take u.length = u := by
      show (u ++ v).take u.length = u
      rw [List.take_append_of_le_length (Nat.le_refl _), List.take_length]
    have ea2 : ((6 :: (u ++ v)).drop (1 + u.length)).take v.length = v := by
      rw [Nat.add_comm]
      show ((u ++ v).drop u.length).take v.length = v
      rw [List.drop_append_of_le_length (Nat.le_refl _), List.drop_length, List.nil_append, List.take_length]
    have at190 : (lb.length ≤ i ∨ lf.length ≤ j) → ∀ {n' : Nat}, pl_At n' 260 190 [(0, .ref 1131), (2, .int x2), (3, .int x3), (5, .int x5), (6, .int x6)] [] s (ps_rI R) := fun hh {n'} => by
      cases n' with
      | zero => exact pl_At_0
      | succ n' =>
      have e : tq_rp u v 40 lb lf ↔ (lb.length ≤ i ∧ lf.length ≤ j) := by
        refine hrp.trans ((tq_rp_end ?_).trans ?_)
        · exact hh.imp (fun z => List.drop_eq_nil_of_le z) (fun z => List.drop_eq_nil_of_le z)
        · rw [List.drop_eq_nil_iff, List.drop_eq_nil_iff]
      refine pl_260_190 (fm_219c h2 Wb (fun v1 q1 => ⟨fun z => k0 (fun w => ?_), fun z => fm_219c h3 Wf (fun v2 q2 => ⟨fun z2 => k0 (fun w => ?_), fun z2 => k1 (e.mpr ?_)⟩)⟩))
      · have z := xne z
        have := e.mp w
        omega
      · have z2 := xne z2
        have := e.mp w
        omega
      · have z := xeq z
        have z2 := xeq z2
        omega
    refine pl_260_14 (fm_219c h2 Wb (fun v1 q1 => ⟨fun z => at190 (Or.inl ?_), fun z => fm_219c h3 Wf (fun v2 q2 => ⟨fun z2 => at190 (Or.inr ?_), fun z2 => ?_⟩)⟩))
    · have z := xle z
      omega
    · have z2 := xle z2
      omega
    have z := xlt z
    have z2 := xlt z2
    obtain ⟨c, hc⟩ : ∃ c, lb[i]? = some c := ⟨_, List.getElem?_eq_getElem (by omega)⟩
    obtain ⟨d, hd⟩ : ∃ d, lf[j]? = some d := ⟨_, List.getElem?_eq_getElem (by omega)⟩
    have hb0 : lb.drop i ≠ [] := fun w => by rw [drop_g hc] at w; cases w
    have hf0 : lf.drop j ≠ [] := fun w => by rw [drop_g hd] at w; cases w
    have bl : (lb.drop i).length ≤ 40 := by rw [List.length_drop]; omega
    have at162 : ¬ ((lb.drop i).take u.length = u ∧ (lf.drop j).take v.length = v) → ∀ {n' : Nat}, n' ≤ n → pl_At n' 260 162 [(0, .ref 1131), (1, .int x1), (2, .int x2), (3, .int x3), (4, .int x4), (5, .int x5), (6, .int x6)] [] s (ps_rI R) := fun hn {n'} hn' => by
      cases n' with
      | zero => exact pl_At_0
      | succ n' =>
      refine pl_260_162 (fm_220c h2 htb Wb h5 hc (fun v3 q3 => fm_220c h3 htf Wf h6 hd (fun v4 q4 => ⟨fun y => ?_, fun y => k0 (fun w => ?_)⟩)))
      · have y := xeq y
        have e : c = d := by omega
        have st := tq_rp_one (t := v) hu1 bl hb0 hf0 (by rw [drop_g hc, drop_g hd, e]; rfl) hn
        rw [List.drop_drop, List.drop_drop] at st
        exact (fm_260_14 hA hu hv h1 hta Wa h2 htb Wb h3 htf Wf h4 k1 k0 n (xj1 h5 (by omega)) (xj1 h6 (by omega)) (by omega) (by omega) (hrp.trans st)).le (by omega)
      · have y := xne y
        refine tq_rp_ne (t := v) hb0 (fun e => ?_) hn (hrp.mp w)
        rw [drop_g hc, drop_g hd] at e
        have e : some c = some d := e
        cases e
        exact y (by rw [q3, q4])
    have at111 : ¬ (lb.drop i).take u.length = u → ∀ {n' : Nat}, n' ≤ n → pl_At n' 260 66 [(0, .ref 1131), (1, .int x1), (2, .int x2), (3, .int x3), (4, .int x4), (5, .int x5), (6, .int x6)] [] s (ps_rI R) := fun hn {n'} hn' => by
      cases n' with
      | zero => exact pl_At_0
      | succ n' =>
      refine pl_260_66 ⟨fun _ => ?_, fun y => absurd rfl y⟩
      cases n' with
      | zero => exact pl_At_0
      | succ n' =>
      exact pl_260_111 ⟨fun _ => at162 (fun w => hn w.1) (by omega), fun y => absurd rfl y⟩
    refine fm_220c h2 htb Wb h5 hc (fun v3 q3 => ⟨fun y => at111 (fun w => ?_) (Nat.le_refl _), fun y => ?_⟩)
    · have y := xlt y
      rw [drop_g hc, eu] at w
      have e : c = cu := (List.cons.inj w).1
      rw [eu] at hu
      obtain ⟨bb, W', ks, e2, hk, -⟩ := ws_cons.mp hu
      cases e2
      rcases kS_cases hk with y2 | y2 | y2 | y2 | y2 | y2 | y2
      · cases y2.1
      · cases y2.1
      · cases y2.1
      · cases y2.1
      · cases y2.1
      · omega
      · omega
    · refine fm_259 (f := 1) (m := u.length) (p := i) h1 hta Wa h2 htb Wb rfl e4 h5 (by omega) (by omega) (fun e => ⟨fun w => absurd w (by decide), fun _ => ⟨fun w => absurd w (by decide), fun _ => ?_⟩⟩) (fun e => ⟨fun _ => at111 (fun w => e (ea1.trans w.symm)) (Nat.le_refl _), fun w => absurd rfl w⟩)
      have eb : (lb.drop i).take u.length = u := e.symm.trans ea1
      have lub : u.length ≤ (lb.drop i).length := by
        have := congrArg List.length eb
        rw [List.length_take] at this
        omega
      rw [List.length_drop] at lub
      have e5 : (x5 + (x4 - 1)).toInt = (i + u.length : Nat) := by rw [xIa (by omega) (by omega), h5, e4]; omega
      refine fm_259 (f := 1) (m := u.length) (p := j) h1 hta Wa h3 htf Wf rfl e4 h6 (by omega) (by omega) (fun e2 => ⟨fun w => absurd w (by decide), fun _ => ?_⟩) (fun e2 => ⟨fun _ => ?_, fun w => absurd rfl w⟩)
      · have ef : (lf.drop j).take u.length = u := e2.symm.trans ea1
        have luf : u.length ≤ (lf.drop j).length := by
          have := congrArg List.length ef
          rw [List.length_take] at this
          omega
        rw [List.length_drop] at luf
        have e6 : (x6 + (x4 - 1)).toInt = (j + u.length : Nat) := by rw [xIa (by omega) (by omega), h6, e4]; omega
        have st := tq_rp_skip hA hu hv bl eb ef
        rw [List.drop_drop, List.drop_drop] at st
        exact fm_260_14 hA hu hv h1 hta Wa h2 htb Wb h3 htf Wf h4 k1 k0 n e5 e6 (by omega) (by omega) (hrp.trans st)
      · cases n with
        | zero => exact pl_At_0
        | succ n =>
        refine pl_260_111 ⟨fun w => absurd w (by decide), fun _ => fm_219c h1 Wa (fun v4 q4 => ?_)⟩
        rw [la] at q4
        have e7 : (v4 - x4).toInt = (v.length : Nat) := by rw [xIs (by omega) (by omega), q4, h4]; omega
        refine fm_259 (f := 1 + u.length) (m := v.length) (p := j) h1 hta Wa h3 htf Wf h4 e7 h6 (by rw [la]; omega) (by omega) (fun e3 => ⟨fun w => absurd w (by decide), fun _ => fm_219c h1 Wa (fun v5 q5 => ?_)⟩) (fun e3 => ⟨fun _ => at162 (fun w => e3 (ea2.trans w.2.symm)) (Nat.le_succ _), fun w => absurd rfl w⟩)
        rw [la] at q5
        have ef : (lf.drop j).take v.length = v := e3.symm.trans ea2
        have luf : v.length ≤ (lf.drop j).length := by
          have := congrArg List.length ef
          rw [List.length_take] at this
          omega
        rw [List.length_drop] at luf
        have e8 : (v5 - x4).toInt = (v.length : Nat) := by rw [xIs (by omega) (by omega), q5, h4]; omega
        have e6 : (x6 + (v5 - x4)).toInt = (j + v.length : Nat) := by rw [xIa (by omega) (by omega), h6, e8]; omega
        have st := tq_rp_two (t := v) hu1 bl hb0 hf0 eb ef
        rw [List.drop_drop, List.drop_drop] at st
        exact (fm_260_14 hA hu hv h1 hta Wa h2 htb Wb h3 htf Wf h4 k1 k0 (n + 1) e5 e6 (by omega) (by omega) (hrp.trans st)).le (Nat.le_succ _)
theorem fm_260 {n : Nat} (hbk : bk < 2) (h21 : (ps_i s 1131 21).toInt = bk) (H : mv_E s bk g) (hu : ws (sg g) u [false]) (hv : ws (sg g) v [false]) (h1 : x1.toInt = ta) (hta : ta < 27400) (Wa : mv_W s ta (6 :: (u ++ v))) (h2 : x2.toInt = tb) (htb : tb < 27400) (Wb : mv_W s tb lb) (h3 : x3.toInt = tf) (htf : tf < 27400) (Wf : mv_W s tf lf) (k1 : tq_rp u v 40 lb lf → R 1 s) (k0 : ¬ tq_rp u v 40 lb lf → R 0 s) : pl_Cl n 260 [.ref 1131, .int x1, .int x2, .int x3] s (ps_rI R) := by
  cases n with
  | zero => exact pl_At_0
  | succ n =>
  show pl_At (n + 1) 260 0 [(0, .ref 1131), (1, .int x1), (2, .int x2), (3, .int x3)] [] s (ps_rI R)
  have hA := arh_k H.2.2.1 H.2.2.2.1
  refine pl_260_0 (fm_221 (i := 1) hbk h21 H h1 hta Wa rfl (show ws (sg g) (u ++ v) [false, false] from ws_app (W1 := [false]) hu hv) (fun v1 q1 => ?_))
  have e : en (arh g) ((6 :: (u ++ v)).drop 1) 1 = u.length := en_p1 hA hu
  rw [e] at q1
  exact fm_260_14 hA hu hv h1 hta Wa h2 htb Wb h3 htf Wf q1 k1 k0 n (i := 0) (j := 0) rfl rfl (Nat.zero_le _) (Nat.zero_le _) (by rw [List.drop_zero, List.drop_zero])
end RP
end
section
set_option maxRecDepth 100000
/-! the reference: general, special, exist, open, same, replace -/
-- ProofBenchModel.takesOpen(I)V
theorem pl_258_0 {n : Nat} {x1 : Int32} {s : ps_S} {Q : Option Value → ps_S → Prop} (h :
  pl_Cl n 244 [.ref 1131, .int x1] s (ps_rI (fun v1 s1 =>
    pl_Cl n 247 [.ref 1131, .int v1] s1 (ps_rI (fun v2 s2 =>
      (v2 = 5 →
        (pm_in x1 40 = true →
          pl_Cl n 223 [.ref 1131, .int v1, .int (ps_a s2 1156 (Int32.toNatClampNeg x1))] s2 (ps_rI (fun v3 s3 =>
            (v3 ≠ 0 →
              pl_At n 258 53 [(0, .ref 1131), (1, .int x1), (2, .int v1)] [] s3 Q) ∧
            (v3 = 0 →
              pl_Cl n 245 [.ref 1131, .int x1] s3 (ps_rI (fun v4 s4 =>
                (pm_in x1 40 = true →
                  pl_Cl n 223 [.ref 1131, .int v4, .int (ps_a s4 1156 (Int32.toNatClampNeg x1))] s4 (ps_rI (fun v5 s5 =>
                    (v5 = 0 →
                      pl_At n 258 58 [(0, .ref 1131), (1, .int x1), (2, .int v1)] [] s5 Q) ∧
                    (v5 ≠ 0 →
                      pl_At n 258 53 [(0, .ref 1131), (1, .int x1), (2, .int v1)] [] s5 Q))))))))))) ∧
      (v2 ≠ 5 →
        pl_Cl n 241 [.ref 1131, .int 2] s2 (ps_rV (fun s6 =>
          Q none s6)))))))) : pl_At (n + 1) 258 0 [(0, .ref 1131), (1, .int x1)] [] s Q :=
  pl_wp_at (stops := [(53, [0, 1, 2]), (58, [0, 1, 2]), (72, [0, 1, 3])]) (f := 33) h rfl

theorem pl_258_53 {n : Nat} {x1 : Int32} {x2 : Int32} {s : ps_S} {Q : Option Value → ps_S → Prop} (h :
  pl_Cl n 241 [.ref 1131, .int 3] s (ps_rV (fun s1 =>
    pl_At n 258 58 [(0, .ref 1131), (1, .int x1), (2, .int x2)] [] s1 Q))) : pl_At (n + 1) 258 53 [(0, .ref 1131), (1, .int x1), (2, .int x2)] [] s Q :=
  pl_wp_at (stops := [(53, [0, 1, 2]), (58, [0, 1, 2]), (72, [0, 1, 3])]) (f := 5) h rfl

theorem pl_258_58 {n : Nat} {x1 : Int32} {x2 : Int32} {s : ps_S} {Q : Option Value → ps_S → Prop} (h :
  (pm_in x1 40 = true →
    pl_Cl n 231 [.ref 1131, .int x2, .int (-1), .int (ps_a s 1156 (Int32.toNatClampNeg x1))] s (ps_rV (fun s1 =>
      pl_At n 258 72 [(0, .ref 1131), (1, .int x1), (3, .int 0)] [] s1 Q)))) : pl_At (n + 1) 258 58 [(0, .ref 1131), (1, .int x1), (2, .int x2)] [] s Q :=
  pl_wp_at (stops := [(53, [0, 1, 2]), (58, [0, 1, 2]), (72, [0, 1, 3])]) (f := 12) h rfl

theorem pl_258_72 {n : Nat} {x1 : Int32} {x3 : Int32} {s : ps_S} {Q : Option Value → ps_S → Prop} (h :
  (pm_in x1 40 = true →
    (pm_in (ps_a s 1154 (Int32.toNatClampNeg x1)) 41 = true →
      ((ps_a s 1157 (Int32.toNatClampNeg (ps_a s 1154 (Int32.toNatClampNeg x1)))) ≤ x3 →
        (pm_in x1 40 = true →
          pl_Cl n 249 [.ref 1131, .int x1, .int (ps_a s 1153 (Int32.toNatClampNeg x1)), .int 0] s (ps_rV (fun s1 =>
            (pm_in x1 40 = true →
              pl_Cl n 249 [.ref 1131, .int x1, .int (ps_a s1 1154 (Int32.toNatClampNeg x1)), .int 1] s1 (ps_rV (fun s2 =>
                pl_Cl n 245 [.ref 1131, .int x1] (ps_ui s2 1131 34 0) (ps_rI (fun v3 s3 =>
                  pl_Cl n 227 [.ref 1131, .int v3] s3 (ps_rV (fun s4 =>
                    Q none s4))))))))))) ∧
      (x3 < (ps_a s 1157 (Int32.toNatClampNeg (ps_a s 1154 (Int32.toNatClampNeg x1)))) →
        (pm_in x1 40 = true →
          pl_Cl n 243 [.int (ps_a s 1154 (Int32.toNatClampNeg x1)), .int x3] s (ps_rI (fun v5 s5 =>
            pl_Cl n 230 [.ref 1131, .int v5] s5 (ps_rI (fun v6 s6 =>
              (v6 ≠ 0 →
                pl_At n 258 72 [(0, .ref 1131), (1, .int x1), (3, .int (x3 + 1))] [] s6 Q) ∧
              (v6 = 0 →
                (pm_in x1 40 = true →
                  pl_Cl n 223 [.ref 1131, .int v5, .int (ps_a s6 1156 (Int32.toNatClampNeg x1))] s6 (ps_rI (fun v7 s7 =>
                    (v7 = 0 →
                      pl_At n 258 72 [(0, .ref 1131), (1, .int x1), (3, .int (x3 + 1))] [] s7 Q) ∧
                    (v7 ≠ 0 →
                      pl_Cl n 241 [.ref 1131, .int 3] s7 (ps_rV (fun s8 =>
                        pl_At n 258 72 [(0, .ref 1131), (1, .int x1), (3, .int (x3 + 1))] [] s8 Q)))))))))))))))) : pl_At (n + 1) 258 72 [(0, .ref 1131), (1, .int x1), (3, .int x3)] [] s Q :=
  pl_wp_at (stops := [(53, [0, 1, 2]), (58, [0, 1, 2]), (72, [0, 1, 3])]) (f := 64) h rfl

-- ProofBenchModel.takesBound(I)V
theorem pl_257_0 {n : Nat} {x1 : Int32} {s : ps_S} {Q : Option Value → ps_S → Prop} (h :
  pl_Cl n 244 [.ref 1131, .int x1] s (ps_rI (fun v1 s1 =>
    (pm_in x1 40 = true →
      ((ps_a s1 1152 (Int32.toNatClampNeg x1)) = 11 →
        pl_At n 257 67 [(0, .ref 1131), (1, .int x1), (2, .int v1), (5, .int 0)] [] s1 Q) ∧
      ((ps_a s1 1152 (Int32.toNatClampNeg x1)) ≠ 11 →
        ((ps_a s1 1152 (Int32.toNatClampNeg x1)) = 12 →
        pl_Cl n 247 [.ref 1131, .int v1] s1 (ps_rI (fun v2 s2 =>
          (v2 = 4 →
            pl_Cl n 231 [.ref 1131, .int v1, .int ((24108 : Int32) + ((41 : Int32) * x1)), .int (-1)] s2 (ps_rV (fun s3 =>
              pl_At n 257 281 [(0, .ref 1131), (1, .int x1)] [] s3 Q))) ∧
          (v2 ≠ 4 →
            pl_Cl n 241 [.ref 1131, .int 2] s2 (ps_rV (fun s4 =>
              pl_At n 257 281 [(0, .ref 1131), (1, .int x1)] [] s4 Q)))))) ∧
      ((ps_a s1 1152 (Int32.toNatClampNeg x1)) ≠ 12 →
        ((ps_a s1 1152 (Int32.toNatClampNeg x1)) = 13 →
        pl_Cl n 247 [.ref 1131, .int ((22468 : Int32) + ((41 : Int32) * x1))] s1 (ps_rI (fun v5 s5 =>
          (v5 ≠ 5 →
            pl_At n 257 177 [(0, .ref 1131), (1, .int x1), (2, .int v1), (4, .int ((22468 : Int32) + ((41 : Int32) * x1)))] [] s5 Q) ∧
          (v5 = 5 →
            pl_Cl n 231 [.ref 1131, .int ((22468 : Int32) + ((41 : Int32) * x1)), .int ((24108 : Int32) + ((41 : Int32) * x1)), .int (-1)] s5 (ps_rV (fun s6 =>
              pl_At n 257 177 [(0, .ref 1131), (1, .int x1), (2, .int v1), (4, .int ((22468 : Int32) + ((41 : Int32) * x1)))] [] s6 Q)))))) ∧
      ((ps_a s1 1152 (Int32.toNatClampNeg x1)) ≠ 13 →
        ((ps_a s1 1152 (Int32.toNatClampNeg x1)) = 14 →
        pl_Cl n 258 [.ref 1131, .int x1] s1 (ps_rV (fun s7 =>
          Q none s7))) ∧
      ((ps_a s1 1152 (Int32.toNatClampNeg x1)) ≠ 14 →
        ((ps_a s1 1152 (Int32.toNatClampNeg x1)) = 15 →
        pl_Cl n 225 [.ref 1131, .int 6] s1 (ps_rV (fun s8 =>
          pl_Cl n 227 [.ref 1131, .int ((24108 : Int32) + ((41 : Int32) * x1))] s8 (ps_rV (fun s9 =>
            pl_Cl n 227 [.ref 1131, .int ((24108 : Int32) + ((41 : Int32) * x1))] s9 (ps_rV (fun s10 =>
              Q none s10))))))) ∧
      ((ps_a s1 1152 (Int32.toNatClampNeg x1)) ≠ 15 →
        pl_Cl n 247 [.ref 1131, .int v1] s1 (ps_rI (fun v11 s11 =>
        (v11 = 6 →
          pl_Cl n 245 [.ref 1131, .int x1] s11 (ps_rI (fun v12 s12 =>
            pl_Cl n 260 [.ref 1131, .int v1, .int v12, .int ((22468 : Int32) + ((41 : Int32) * x1))] s12 (ps_rI (fun v13 s13 =>
              (v13 ≠ 0 →
                pl_At n 257 275 [(0, .ref 1131), (1, .int x1), (4, .int ((22468 : Int32) + ((41 : Int32) * x1)))] [] s13 Q) ∧
              (v13 = 0 →
                pl_Cl n 241 [.ref 1131, .int 4] s13 (ps_rV (fun s14 =>
                  pl_At n 257 275 [(0, .ref 1131), (1, .int x1), (4, .int ((22468 : Int32) + ((41 : Int32) * x1)))] [] s14 Q)))))))) ∧
        (v11 ≠ 6 →
          pl_Cl n 241 [.ref 1131, .int 2] s11 (ps_rV (fun s15 =>
            pl_At n 257 275 [(0, .ref 1131), (1, .int x1), (4, .int ((22468 : Int32) + ((41 : Int32) * x1)))] [] s15 Q)))))))))))))) : pl_At (n + 1) 257 0 [(0, .ref 1131), (1, .int x1)] [] s Q :=
  pl_wp_at (stops := [(67, [0, 1, 2, 5]), (177, [0, 1, 2, 4]), (195, [0, 1, 4]), (200, [0, 1, 4]), (275, [0, 1, 4]), (281, [0, 1])]) (f := 84) h rfl

theorem pl_257_67 {n : Nat} {x1 : Int32} {x2 : Int32} {x5 : Int32} {s : ps_S} {Q : Option Value → ps_S → Prop} (h :
  (pm_in x1 40 = true →
    (pm_in (ps_a s 1153 (Int32.toNatClampNeg x1)) 41 = true →
      ((ps_a s 1157 (Int32.toNatClampNeg (ps_a s 1153 (Int32.toNatClampNeg x1)))) ≤ x5 →
        (pm_in x1 40 = true →
          pl_Cl n 232 [.ref 1131, .int x2, .int (ps_a s 1156 (Int32.toNatClampNeg x1))] s (ps_rV (fun s1 =>
            pl_At n 257 281 [(0, .ref 1131), (1, .int x1)] [] s1 Q)))) ∧
      (x5 < (ps_a s 1157 (Int32.toNatClampNeg (ps_a s 1153 (Int32.toNatClampNeg x1)))) →
        (pm_in x1 40 = true →
          pl_Cl n 243 [.int (ps_a s 1153 (Int32.toNatClampNeg x1)), .int x5] s (ps_rI (fun v2 s2 =>
            (pm_in x1 40 = true →
              pl_Cl n 223 [.ref 1131, .int v2, .int (ps_a s2 1156 (Int32.toNatClampNeg x1))] s2 (ps_rI (fun v3 s3 =>
                (v3 = 0 →
                  pl_At n 257 67 [(0, .ref 1131), (1, .int x1), (2, .int x2), (5, .int (x5 + 1))] [] s3 Q) ∧
                (v3 ≠ 0 →
                  pl_Cl n 241 [.ref 1131, .int 3] s3 (ps_rV (fun s4 =>
                    pl_At n 257 67 [(0, .ref 1131), (1, .int x1), (2, .int x2), (5, .int (x5 + 1))] [] s4 Q))))))))))))) : pl_At (n + 1) 257 67 [(0, .ref 1131), (1, .int x1), (2, .int x2), (5, .int x5)] [] s Q :=
  pl_wp_at (stops := [(67, [0, 1, 2, 5]), (177, [0, 1, 2, 4]), (195, [0, 1, 4]), (200, [0, 1, 4]), (275, [0, 1, 4]), (281, [0, 1])]) (f := 39) h rfl

theorem pl_257_177 {n : Nat} {x1 : Int32} {x2 : Int32} {x4 : Int32} {s : ps_S} {Q : Option Value → ps_S → Prop} (h :
  pl_Cl n 247 [.ref 1131, .int x4] s (ps_rI (fun v1 s1 =>
    (v1 ≠ 5 →
      pl_At n 257 195 [(0, .ref 1131), (1, .int x1), (4, .int x4)] [] s1 Q) ∧
    (v1 = 5 →
      pl_Cl n 230 [.ref 1131, .int x2] s1 (ps_rI (fun v2 s2 =>
        (v2 ≠ 0 →
          pl_At n 257 200 [(0, .ref 1131), (1, .int x1), (4, .int x4)] [] s2 Q) ∧
        (v2 = 0 →
          pl_At n 257 195 [(0, .ref 1131), (1, .int x1), (4, .int x4)] [] s2 Q))))))) : pl_At (n + 1) 257 177 [(0, .ref 1131), (1, .int x1), (2, .int x2), (4, .int x4)] [] s Q :=
  pl_wp_at (stops := [(67, [0, 1, 2, 5]), (177, [0, 1, 2, 4]), (195, [0, 1, 4]), (200, [0, 1, 4]), (275, [0, 1, 4]), (281, [0, 1])]) (f := 11) h rfl

theorem pl_257_195 {n : Nat} {x1 : Int32} {x4 : Int32} {s : ps_S} {Q : Option Value → ps_S → Prop} (h :
  pl_Cl n 241 [.ref 1131, .int 4] s (ps_rV (fun s1 =>
    pl_At n 257 200 [(0, .ref 1131), (1, .int x1), (4, .int x4)] [] s1 Q))) : pl_At (n + 1) 257 195 [(0, .ref 1131), (1, .int x1), (4, .int x4)] [] s Q :=
  pl_wp_at (stops := [(67, [0, 1, 2, 5]), (177, [0, 1, 2, 4]), (195, [0, 1, 4]), (200, [0, 1, 4]), (275, [0, 1, 4]), (281, [0, 1])]) (f := 5) h rfl

theorem pl_257_200 {n : Nat} {x1 : Int32} {x4 : Int32} {s : ps_S} {Q : Option Value → ps_S → Prop} (h :
  pl_Cl n 227 [.ref 1131, .int x4] (ps_ui s 1131 34 0) (ps_rV (fun s1 =>
    pl_At n 257 281 [(0, .ref 1131), (1, .int x1)] [] s1 Q))) : pl_At (n + 1) 257 200 [(0, .ref 1131), (1, .int x1), (4, .int x4)] [] s Q :=
  pl_wp_at (stops := [(67, [0, 1, 2, 5]), (177, [0, 1, 2, 4]), (195, [0, 1, 4]), (200, [0, 1, 4]), (275, [0, 1, 4]), (281, [0, 1])]) (f := 9) h rfl

theorem pl_257_275 {n : Nat} {x1 : Int32} {x4 : Int32} {s : ps_S} {Q : Option Value → ps_S → Prop} (h :
  pl_Cl n 227 [.ref 1131, .int x4] s (ps_rV (fun s1 =>
    pl_At n 257 281 [(0, .ref 1131), (1, .int x1)] [] s1 Q))) : pl_At (n + 1) 257 275 [(0, .ref 1131), (1, .int x1), (4, .int x4)] [] s Q :=
  pl_wp_at (stops := [(67, [0, 1, 2, 5]), (177, [0, 1, 2, 4]), (195, [0, 1, 4]), (200, [0, 1, 4]), (275, [0, 1, 4]), (281, [0, 1])]) (f := 5) h rfl

theorem pl_257_281 {n : Nat} {x1 : Int32} {s : ps_S} {Q : Option Value → ps_S → Prop} (h :
  (pm_in x1 40 = true →
    pl_Cl n 249 [.ref 1131, .int x1, .int (ps_a s 1153 (Int32.toNatClampNeg x1)), .int 0] s (ps_rV (fun s1 =>
      (pm_in x1 40 = true →
        ((ps_a s1 1152 (Int32.toNatClampNeg x1)) ≠ 16 →
          Q none s1) ∧
        ((ps_a s1 1152 (Int32.toNatClampNeg x1)) = 16 →
          (pm_in x1 40 = true →
            pl_Cl n 249 [.ref 1131, .int x1, .int (ps_a s1 1154 (Int32.toNatClampNeg x1)), .int 0] s1 (ps_rV (fun s2 =>
              Q none s2))))))))) : pl_At (n + 1) 257 281 [(0, .ref 1131), (1, .int x1)] [] s Q :=
  pl_wp_at (stops := [(67, [0, 1, 2, 5]), (177, [0, 1, 2, 4]), (195, [0, 1, 4]), (200, [0, 1, 4]), (275, [0, 1, 4]), (281, [0, 1])]) (f := 26) h rfl

theorem any_ts {p : List Nat → Bool} : ∀ {l : List (List Nat)} {m : Nat} {y : List Nat}, l[m]? = some y → (l.take (m + 1)).any p = ((l.take m).any p || p y)
  | [], _, _, h => by cases h
  | a :: l, 0, y, h => by
    cases h
    exact Bool.or_comm (p a) false
  | a :: l, m + 1, y, h => by
    show (p a || (l.take (m + 1)).any p) = ((p a || (l.take m).any p) || p y)
    rw [any_ts (p := p) (l := l) (m := m) h, Bool.or_assoc]
def c3 (q : Bool) : Nat := if q = true then 3 else 0
theorem c3_or {q r : Bool} (h : r = true) : bcs (c3 q) 3 = c3 (q || r) := by
  rw [h]
  cases q <;> rfl
theorem c3_no {q r : Bool} (h : r = false) : c3 q = c3 (q || r) := by
  rw [h]
  cases q <;> rfl
theorem tq_pi_len {t : List Nat} (ht : t.length ≤ 40) : ∀ {D : List (Nat × Nat)} {l : List Nat}, (tq_pi t D l).length ≤ 40 * l.length
  | [], [] => Nat.zero_le _
  | [], _ :: _ => Nat.zero_le _
  | _ :: _, [] => Nat.zero_le _
  | d :: D, c :: l => by
    have ih := tq_pi_len ht (D := D) (l := l)
    show ((if c + 1 = 40 + d.2 then t else [c]) ++ tq_pi t D l).length ≤ _
    rw [List.length_append, List.length_cons]
    split
    · omega
    · rw [List.length_singleton]
      omega
theorem tq_in_len {ar : Nat → Nat} {l t : List Nat} (ht : t.length ≤ 40) (hl : l.length ≤ 40) : (tq_in ar l t).length ≤ 1600 := by
  have := tq_pi_len ht (D := (ly ar [(0, 0)] l).drop 1) (l := l.drop 1)
  rw [List.length_drop] at this
  unfold tq_in
  omega
theorem tq_gi_len {x : Nat} : ∀ {D : List (Nat × Nat)} {l : List Nat}, (tq_gi x D l).length ≤ l.length
  | [], _ => by
    cases ‹List Nat› <;> exact Nat.zero_le _
  | _ :: _, [] => Nat.zero_le _
  | d :: D, c :: l => by
    have ih := tq_gi_len (x := x) (D := D) (l := l)
    show (_ :: tq_gi x D l).length ≤ _
    rw [List.length_cons, List.length_cons]
    omega
theorem ws_60 {σ : mSig} (hF : σ.1.2 ≤ 4) {x : Nat} (hx : x < 12) : ws σ [60 + x] [false] := ws_c (kS_tx hF (by omega) (by omega)) (show ws σ [] [] from rfl)
section TKB
variable {b n1 n2 n3 ax x : Nat} {h : tx_H} {Θ : List tq_H} {D : List tq_R} {t f : List Nat} {x1 : Int32} {s0 : ps_S} {R : ps_S → Prop}

theorem fm_257_r21 {n : Nat} (h1 : x1.toInt = D.length) (hi : D.length < 40) (X : mpX s0 b h Θ D ((21, n1, n2, n3), (ax, x), t, f)) (B : mpB s0 D.length) (hD : tq_GD h.1 D) (hG : tp_G h.1 h.2.length ((21, n1, n2, n3), (ax, x), t, f)) (hpr : tq_pr Θ D ((21, n1, n2, n3), (ax, x), t, f)) (k : ∀ s', TKm s0 s' h Θ D ((21, n1, n2, n3), (ax, x), t, f) → R s') : pl_Cl n 257 [.ref 1131, .int x1] s0 (ps_rV R) := by
  cases n with
  | zero => exact pl_At_0
  | succ n =>
  show pl_At (n + 1) 257 0 [(0, .ref 1131), (1, .int x1)] [] s0 (ps_rV R)
  obtain ⟨b1, b2, b3⟩ := B
  have hA := arh_k (g := h.1) X.1.2.2.1.2.2.1 X.1.2.2.1.2.2.2.1
  have er : (ps_a s0 1152 D.length).toInt = (11 : Int) := X.2.2.2.1.trans rfl
  have p1 : n1 < D.length := hpr.1 (of_decide_eq_true rfl)
  have e1 : (ps_a s0 1153 D.length).toInt = n1 := X.2.2.2.2.1 (of_decide_eq_true rfl)
  obtain ⟨⟨W1, w1, ne1, l1⟩, -⟩ := mprem X hD p1
  have hx12 : x < 12 := hG.2.2.2.1 (of_decide_eq_true rfl)
  have ex : (ps_a s0 1156 D.length).toInt = x := X.2.2.2.2.2.2.2.2.1 (of_decide_eq_true rfl)
  have at281 : ∀ {n' c : Nat} {L L' : List Nat} {s4 : ps_S}, tq_mk h Θ D ((21, n1, n2, n3), (ax, x), t, f) = (c, L', [], [], []) → (ps_i s4 1131 50).toInt = c → mk_M s4 L → (L = [] ∨ ws (sg h.1) L [true]) → L.length ≤ 2000 → PAm s4 D.length [] 0 → TKf D.length s0 s4 → (c = 0 → L = L') → pl_At n' 257 281 [(0, .ref 1131), (1, .int x1)] [] s4 (ps_rV R) := fun {n' c L L' s4} hm h50 M4 hw hl P4 T4 hL => by
    cases n' with
    | zero => exact pl_At_0
    | succ n' =>
    refine pl_257_281 ?_
    rw [xtn h1]
    intro _
    refine fm_249k X hD hi T4 h1 p1 (show (ps_a _ 1153 D.length).toInt = n1 from (mpX_TKf X hi T4).2.2.2.2.1 (of_decide_eq_true rfl)) M4 (Or.inl ⟨rfl, rfl⟩) (by decide) P4 (fun s5 P5 K5 => ?_)
    have T5 := TKf_A T4 K5
    have M5 := mk_M_kq M4 K5.1 (by decide) (by decide)
    have er5 := (kq_a T5.1 1152 (by decide))
    intro _
    clear er
    have er : (ps_a s5 1152 D.length).toInt = (11 : Int) := (mpX_TKf X hi T5).2.2.2.1.trans rfl
    refine ⟨fun _ => ?_, fun z => absurd (show (ps_a _ 1152 D.length).toInt = (16 : Int) from xeq z) (by omega)⟩
    refine k s5 (TKm_mk hm ?_ M5 hw hl P5 (by decide) (fun w => ⟨hL w, rfl⟩) T5)
    rw [kq_i K5.1 50 (by decide)]
    exact h50
  have hm := tq_mk_21 (h := h) (Θ := Θ) (D := D) (n1 := n1) (n2 := n2) (n3 := n3) (ax := ax) (x := x) (t := t) (f := f)
  obtain ⟨-, hAs, -, -⟩ := mprem X hD p1
  have at67 : ∀ (n' : Nat) {m : Nat} {x5 v1 : Int32} {s1 : ps_S}, v1.toInt = (41 * n1 : Nat) → x5.toInt = m → m ≤ (tq_a D n1).length → (ps_i s1 1131 50).toInt = (c3 (((tq_a D n1).take m).any (fun y => y.contains (60 + x))) : Nat) → mk_M s1 [] → PAm s1 D.length [] 0 → TKf D.length s0 s1 → pl_At n' 257 67 [(0, .ref 1131), (1, .int x1), (2, .int v1), (5, .int x5)] [] s1 (ps_rV R) := by
    intro n'
    induction n' with
    | zero => exact fun _ _ _ _ _ _ _ => pl_At_0
    | succ n' ih =>
      intro m x5 v1 s1 q1 h5 hm5 h50 M1 P1 T1
      have X1 := mpX_TKf X hi T1
      obtain ⟨⟨W1', -⟩, a1, a2, a3⟩ := mprem X1 hD p1
      have e1' : (ps_a s1 1153 D.length).toInt = n1 := X1.2.2.2.2.1 (of_decide_eq_true rfl)
      have ex' : (ps_a s1 1156 D.length).toInt = x := X1.2.2.2.2.2.2.2.2.1 (of_decide_eq_true rfl)
      refine pl_257_67 ?_
      rw [xtn h1, xtn e1']
      intro _
      intro _
      refine ⟨fun z => ?_, fun z => ?_⟩
      · have z := xle z
        intro _
        rw [List.take_of_length_le (by omega)] at h50
        refine fm_232 (L0 := []) X1.1.1 X1.1.2.1 X1.1.2.2.1 q1 (by omega) W1' w1 M1 ex' (by omega) (by decide) (fun s2 M2 K2 => ?_)
        have T2 := TKf_q T1 K2 (by decide) (by decide) (by decide)
        have h52 : (ps_i s2 1131 50).toInt = _ := (congrArg Int32.toInt (kq_i K2 50 (by decide))).trans h50
        have lg : (tq_ge (arh h.1) (tq_r D n1) x).length ≤ 2000 := by
          have := tq_gi_len (x := x) (D := ly (arh h.1) [(0, 0)] (tq_r D n1)) (l := tq_r D n1)
          unfold tq_ge
          rw [List.length_cons]
          omega
        have hlen := ly_len hA w1 (S := [(0, 0)]) rfl
        have wg : ws (sg h.1) (tq_ge (arh h.1) (tq_r D n1) x) [true] := by
          obtain ⟨Rk, r1, r2, -⟩ := tq_at p1
          have d1 := (hD n1 Rk r1).1.2.2
          rw [← r2] at d1
          exact ws_c (kS_f1 (Or.inl rfl)) (tq_gi_ws ⟨X.1.2.2.1.2.2.1, X.1.2.2.1.2.2.2.1⟩ w1 hlen (dp_lt d1 hlen))
        by_cases hc : (tq_a D n1).any (fun y => y.contains (60 + x)) = true
        · rw [if_pos hc] at hm
          rw [hc] at h52
          exact at281 hm h52 M2 (Or.inr wg) lg (PAm_kq P1 K2 (by decide) (by decide)) T2 (fun w => by cases w)
        · rw [if_neg hc] at hm
          rw [Bool.eq_false_iff.mpr hc] at h52
          exact at281 hm h52 M2 (Or.inr wg) lg (PAm_kq P1 K2 (by decide) (by decide)) T2 (fun _ => rfl)
      · have z := xlt z
        intro _
        obtain ⟨y, hy⟩ : ∃ y, (tq_a D n1)[m]? = some y := ⟨_, List.getElem?_eq_getElem (by omega)⟩
        obtain ⟨Wy, -⟩ := a3 m y hy
        have hts := any_ts (p := fun y => y.contains (60 + x)) hy
        refine fm_243 (i := n1) (m := m) e1' (by omega) h5 (by omega) (fun v2 q2 => ?_)
        intro _
        refine fm_223c q2 (by omega) Wy ex' (by omega) (fun e => ⟨fun w => absurd w (by decide), fun _ => ?_⟩) (fun e => ⟨fun _ => ?_, fun w => absurd rfl w⟩)
        · refine fm_241 (c := 3) h50 rfl (fun s2 h52 K2 => ?_)
          refine ih (m := m + 1) q1 (xj1 h5 (by omega)) (by omega) ?_ (mk_M_kq M1 K2 (by decide) (by decide)) (PAm_kq P1 K2 (by decide) (by decide)) (TKf_q T1 K2 (by decide) (by decide) (by decide))
          rw [h52, hts, c3_or e]
        · refine ih (m := m + 1) q1 (xj1 h5 (by omega)) (by omega) ?_ M1 P1 T1
          rw [h50, hts, ← c3_no (Bool.eq_false_iff.mpr e)]
  refine pl_257_0 ?_
  rw [xtn h1]
  refine fm_244 (i := D.length) (m := n1) h1 e1 (by omega) (fun v1 q1 => ?_)
  intro _
  refine ⟨fun _ => ?_, fun z => absurd (show (ps_a _ 1152 D.length).toInt = (11 : Int) from er) (xne z)⟩
  exact at67 n (m := 0) q1 rfl (Nat.zero_le _) (by rw [List.take_zero]; exact b1) b2 b3 TKf_refl

theorem fm_257_r22 {n : Nat} (h1 : x1.toInt = D.length) (hi : D.length < 40) (X : mpX s0 b h Θ D ((22, n1, n2, n3), (ax, x), t, f)) (B : mpB s0 D.length) (hD : tq_GD h.1 D) (hG : tp_G h.1 h.2.length ((22, n1, n2, n3), (ax, x), t, f)) (hpr : tq_pr Θ D ((22, n1, n2, n3), (ax, x), t, f)) (k : ∀ s', TKm s0 s' h Θ D ((22, n1, n2, n3), (ax, x), t, f) → R s') : pl_Cl n 257 [.ref 1131, .int x1] s0 (ps_rV R) := by
  cases n with
  | zero => exact pl_At_0
  | succ n =>
  show pl_At (n + 1) 257 0 [(0, .ref 1131), (1, .int x1)] [] s0 (ps_rV R)
  obtain ⟨b1, b2, b3⟩ := B
  have hA := arh_k (g := h.1) X.1.2.2.1.2.2.1 X.1.2.2.1.2.2.2.1
  have er : (ps_a s0 1152 D.length).toInt = (12 : Int) := X.2.2.2.1.trans rfl
  have p1 : n1 < D.length := hpr.1 (of_decide_eq_true rfl)
  have e1 : (ps_a s0 1153 D.length).toInt = n1 := X.2.2.2.2.1 (of_decide_eq_true rfl)
  obtain ⟨⟨W1, w1, ne1, l1⟩, -⟩ := mprem X hD p1
  obtain ⟨wt, lt⟩ : ws (sg h.1) t [false] ∧ t.length ≤ 40 := hG.2.1 (of_decide_eq_true rfl)
  have Wt : mv_W s0 (24108 + 41 * D.length) t := X.2.2.2.2.2.2.2.2.2.1 (of_decide_eq_true rfl)
  have at281 : ∀ {n' c : Nat} {L L' : List Nat} {s4 : ps_S}, tq_mk h Θ D ((22, n1, n2, n3), (ax, x), t, f) = (c, L', [], [], []) → (ps_i s4 1131 50).toInt = c → mk_M s4 L → (L = [] ∨ ws (sg h.1) L [true]) → L.length ≤ 2000 → PAm s4 D.length [] 0 → TKf D.length s0 s4 → (c = 0 → L = L') → pl_At n' 257 281 [(0, .ref 1131), (1, .int x1)] [] s4 (ps_rV R) := fun {n' c L L' s4} hm h50 M4 hw hl P4 T4 hL => by
    cases n' with
    | zero => exact pl_At_0
    | succ n' =>
    refine pl_257_281 ?_
    rw [xtn h1]
    intro _
    refine fm_249k X hD hi T4 h1 p1 (show (ps_a _ 1153 D.length).toInt = n1 from (mpX_TKf X hi T4).2.2.2.2.1 (of_decide_eq_true rfl)) M4 (Or.inl ⟨rfl, rfl⟩) (by decide) P4 (fun s5 P5 K5 => ?_)
    have T5 := TKf_A T4 K5
    have M5 := mk_M_kq M4 K5.1 (by decide) (by decide)
    have er5 := (kq_a T5.1 1152 (by decide))
    intro _
    clear er
    have er : (ps_a s5 1152 D.length).toInt = (12 : Int) := (mpX_TKf X hi T5).2.2.2.1.trans rfl
    refine ⟨fun _ => ?_, fun z => absurd (show (ps_a _ 1152 D.length).toInt = (16 : Int) from xeq z) (by omega)⟩
    refine k s5 (TKm_mk hm ?_ M5 hw hl P5 (by decide) (fun w => ⟨hL w, rfl⟩) T5)
    rw [kq_i K5.1 50 (by decide)]
    exact h50
  have hm := tq_mk_22 (h := h) (Θ := Θ) (D := D) (n1 := n1) (n2 := n2) (n3 := n3) (ax := ax) (x := x) (t := t) (f := f)
  refine pl_257_0 ?_
  rw [xtn h1]
  refine fm_244 (i := D.length) (m := n1) h1 e1 (by omega) (fun v1 q1 => ?_)
  intro _
  refine ⟨fun z => absurd (show (ps_a _ 1152 D.length).toInt = (11 : Int) from xeq z) (by omega), fun _ => ?_⟩
  refine ⟨fun _ => ?_, fun z => absurd (show (ps_a _ 1152 D.length).toInt = (12 : Int) from er) (xne z)⟩
  refine fm_247 q1 (by omega) W1 ne1 (fun v2 c hc q2 => ⟨fun z => ?_, fun z => ?_⟩)
  · have z : v2.toInt = (4 : Int) := xeq z
    have hh : (tq_r D n1).head? = some 4 := by rw [hc]; congr 1; omega
    rw [if_pos hh] at hm
    refine fm_231 (L0 := []) (tt := t) X.1.1 X.1.2.1 X.1.2.2.1 q1 (by omega) W1 w1 (Or.inl hh) b2 ⟨Nat.zero_le _, lt, Or.inr ⟨_, rowT h1 hi, by omega, Wt⟩⟩ (fun s2 M2 K2 => ?_)
    exact at281 hm (by rw [kq_i K2 50 (by decide)]; exact b1) M2 (Or.inr (tq_in_ws ⟨X.1.2.2.1.2.2.1, X.1.2.2.1.2.2.2.1⟩ hA w1 (Or.inl hh) wt)) (by have := tq_in_len (ar := arh h.1) lt l1; show (tq_in (arh h.1) (tq_r D n1) t).length ≤ 2000; omega) (PAm_kq b3 K2 (by decide) (by decide)) (TKf_q TKf_refl K2 (by decide) (by decide) (by decide)) (fun _ => rfl)
  · have z : v2.toInt ≠ (4 : Int) := xne z
    rw [if_neg (fun w => by rw [hc] at w; cases w; exact z q2)] at hm
    refine fm_241 (z := 0) (c := 2) b1 rfl (fun s4 h50 K4 => ?_)
    exact at281 hm h50 (mk_M_kq b2 K4 (by decide) (by decide)) (Or.inl rfl) (Nat.zero_le _) (PAm_kq b3 K4 (by decide) (by decide)) (TKf_q TKf_refl K4 (by decide) (by decide) (by decide)) (fun w => by cases w)

theorem fm_257_r23 {n : Nat} (h1 : x1.toInt = D.length) (hi : D.length < 40) (X : mpX s0 b h Θ D ((23, n1, n2, n3), (ax, x), t, f)) (B : mpB s0 D.length) (hD : tq_GD h.1 D) (hG : tp_G h.1 h.2.length ((23, n1, n2, n3), (ax, x), t, f)) (hpr : tq_pr Θ D ((23, n1, n2, n3), (ax, x), t, f)) (k : ∀ s', TKm s0 s' h Θ D ((23, n1, n2, n3), (ax, x), t, f) → R s') : pl_Cl n 257 [.ref 1131, .int x1] s0 (ps_rV R) := by
  cases n with
  | zero => exact pl_At_0
  | succ n =>
  show pl_At (n + 1) 257 0 [(0, .ref 1131), (1, .int x1)] [] s0 (ps_rV R)
  obtain ⟨b1, b2, b3⟩ := B
  have hA := arh_k (g := h.1) X.1.2.2.1.2.2.1 X.1.2.2.1.2.2.2.1
  have er : (ps_a s0 1152 D.length).toInt = (13 : Int) := X.2.2.2.1.trans rfl
  have p1 : n1 < D.length := hpr.1 (of_decide_eq_true rfl)
  have e1 : (ps_a s0 1153 D.length).toInt = n1 := X.2.2.2.2.1 (of_decide_eq_true rfl)
  obtain ⟨⟨W1, w1, ne1, l1⟩, -⟩ := mprem X hD p1
  obtain ⟨wt, lt⟩ : ws (sg h.1) t [false] ∧ t.length ≤ 40 := hG.2.1 (of_decide_eq_true rfl)
  have Wt : mv_W s0 (24108 + 41 * D.length) t := X.2.2.2.2.2.2.2.2.2.1 (of_decide_eq_true rfl)
  obtain ⟨wf, lf⟩ : ws (sg h.1) f [true] ∧ f.length ≤ 40 := hG.2.2.1 (of_decide_eq_true rfl)
  have Wf : mv_W s0 (22468 + 41 * D.length) f := X.2.2.2.2.2.2.2.2.2.2 (of_decide_eq_true rfl)
  have at281 : ∀ {n' c : Nat} {L L' : List Nat} {s4 : ps_S}, tq_mk h Θ D ((23, n1, n2, n3), (ax, x), t, f) = (c, L', [], [], []) → (ps_i s4 1131 50).toInt = c → mk_M s4 L → (L = [] ∨ ws (sg h.1) L [true]) → L.length ≤ 2000 → PAm s4 D.length [] 0 → TKf D.length s0 s4 → (c = 0 → L = L') → pl_At n' 257 281 [(0, .ref 1131), (1, .int x1)] [] s4 (ps_rV R) := fun {n' c L L' s4} hm h50 M4 hw hl P4 T4 hL => by
    cases n' with
    | zero => exact pl_At_0
    | succ n' =>
    refine pl_257_281 ?_
    rw [xtn h1]
    intro _
    refine fm_249k X hD hi T4 h1 p1 (show (ps_a _ 1153 D.length).toInt = n1 from (mpX_TKf X hi T4).2.2.2.2.1 (of_decide_eq_true rfl)) M4 (Or.inl ⟨rfl, rfl⟩) (by decide) P4 (fun s5 P5 K5 => ?_)
    have T5 := TKf_A T4 K5
    have M5 := mk_M_kq M4 K5.1 (by decide) (by decide)
    have er5 := (kq_a T5.1 1152 (by decide))
    intro _
    clear er
    have er : (ps_a s5 1152 D.length).toInt = (13 : Int) := (mpX_TKf X hi T5).2.2.2.1.trans rfl
    refine ⟨fun _ => ?_, fun z => absurd (show (ps_a _ 1152 D.length).toInt = (16 : Int) from xeq z) (by omega)⟩
    refine k s5 (TKm_mk hm ?_ M5 hw hl P5 (by decide) (fun w => ⟨hL w, rfl⟩) T5)
    rw [kq_i K5.1 50 (by decide)]
    exact h50
  have hm := tq_mk_23 (h := h) (Θ := Θ) (D := D) (n1 := n1) (n2 := n2) (n3 := n3) (ax := ax) (x := x) (t := t) (f := f)
  have nef : f ≠ [] := fun z => by
    obtain ⟨c, l, e⟩ := ws_ne wf
    rw [z] at e
    cases e
  have at200 : ∀ {n' c : Nat} {L' L : List Nat} {s1 : ps_S}, tq_mk h Θ D ((23, n1, n2, n3), (ax, x), t, f) = (c, L', [], [], []) → (c = 0 → f = L') → (ps_i s1 1131 50).toInt = c → PAm s1 D.length [] 0 → TKf D.length s0 s1 → pl_At n' 257 200 [(0, .ref 1131), (1, .int x1), (4, .int ((22468 : Int32) + ((41 : Int32) * x1)))] [] s1 (ps_rV R) := fun {n' c L' L s1} hm hL h50 P1 T1 => by
    cases n' with
    | zero => exact pl_At_0
    | succ n' =>
    refine pl_257_200 (fm_227 (l := f) (rowF h1 hi) (by omega) ((mpX_TKf X hi (TKf_0 T1)).2.2.2.2.2.2.2.2.2.2 (of_decide_eq_true rfl)) mk_M_0 (by decide) (fun s2 M2 K2 => ?_))
    exact at281 hm (by rw [kq_i K2 50 (by decide)]; exact h50) M2 (Or.inr wf) (by show f.length ≤ 2000; omega) (PAm_kq (PAm_0 P1) K2 (by decide) (by decide)) (TKf_q (TKf_0 T1) K2 (by decide) (by decide) (by decide)) hL
  have at195 : tq_mk h Θ D ((23, n1, n2, n3), (ax, x), t, f) = (4, [], [], [], []) → ∀ {n' : Nat} {s1 : ps_S}, (ps_i s1 1131 50).toInt = (0 : Nat) → PAm s1 D.length [] 0 → TKf D.length s0 s1 → pl_At n' 257 195 [(0, .ref 1131), (1, .int x1), (4, .int ((22468 : Int32) + ((41 : Int32) * x1)))] [] s1 (ps_rV R) := fun hm {n' s1} h50 P1 T1 => by
    cases n' with
    | zero => exact pl_At_0
    | succ n' =>
    refine pl_257_195 (fm_241 (z := 0) (c := 4) h50 rfl (fun s4 h54 K4 => ?_))
    exact at200 (L := []) hm (fun w => by cases w) h54 (PAm_kq P1 K4 (by decide) (by decide)) (TKf_q T1 K4 (by decide) (by decide) (by decide))
  refine pl_257_0 ?_
  rw [xtn h1]
  refine fm_244 (i := D.length) (m := n1) h1 e1 (by omega) (fun v1 q1 => ?_)
  intro _
  refine ⟨fun z => absurd (show (ps_a _ 1152 D.length).toInt = (11 : Int) from xeq z) (by omega), fun _ => ?_⟩
  refine ⟨fun z => absurd (show (ps_a _ 1152 D.length).toInt = (12 : Int) from xeq z) (by omega), fun _ => ?_⟩
  refine ⟨fun _ => ?_, fun z => absurd (show (ps_a _ 1152 D.length).toInt = (13 : Int) from er) (xne z)⟩
  refine fm_247 (rowF h1 hi) (by omega) Wf nef (fun v2 c hc q2 => ⟨fun z => ?_, fun z => ?_⟩)
  · have z : v2.toInt ≠ (5 : Int) := xne z
    rw [if_neg (fun w => by rw [hc] at w; cases w.1; exact z q2)] at hm
    cases n with
    | zero => exact pl_At_0
    | succ n =>
    refine pl_257_177 (fm_247 (rowF h1 hi) (by omega) Wf nef (fun v3 c' hc' q3 => ⟨fun _ => at195 hm b1 b3 TKf_refl, fun z2 => ?_⟩))
    have z2 : v3.toInt = (5 : Int) := xeq z2
    rw [hc] at hc'
    cases hc'
    omega
  · have z : v2.toInt = (5 : Int) := xeq z
    have hh : f.head? = some 5 := by rw [hc]; congr 1; omega
    refine fm_231 (L0 := []) (tt := t) X.1.1 X.1.2.1 X.1.2.2.1 (rowF h1 hi) (by omega) Wf wf (Or.inr hh) b2 ⟨Nat.zero_le _, lt, Or.inr ⟨_, rowT h1 hi, by omega, Wt⟩⟩ (fun s2 M2 K2 => ?_)
    have T2 : TKf D.length s0 s2 := TKf_q TKf_refl K2 (by decide) (by decide) (by decide)
    have X2 := mpX_TKf X hi T2
    have P2 := PAm_kq b3 K2 (by decide) (by decide)
    have h52 : (ps_i s2 1131 50).toInt = (0 : Nat) := by rw [kq_i K2 50 (by decide)]; exact b1
    cases n with
    | zero => exact pl_At_0
    | succ n =>
    refine pl_257_177 (fm_247 (rowF h1 hi) (by omega) (X2.2.2.2.2.2.2.2.2.2.2 (of_decide_eq_true rfl)) nef (fun v3 c' hc' q3 => ⟨fun z2 => ?_, fun z2 => ?_⟩))
    · have z2 : v3.toInt ≠ (5 : Int) := xne z2
      have hc' : f.head? = some c' := hc'
      rw [hc] at hc'
      cases hc'
      omega
    · refine fm_230 q1 (by omega) (mprem X2 hD p1).1.1 M2 (fun e => ⟨fun _ => ?_, fun w => absurd w (by decide)⟩) (fun e => ⟨fun w => absurd rfl w, fun _ => ?_⟩)
      · rw [if_pos ⟨hh, e.symm⟩] at hm
        exact at200 (L := []) hm (fun _ => rfl) h52 P2 T2
      · rw [if_neg (fun w => e w.2.symm)] at hm
        exact at195 hm h52 P2 T2

theorem fm_257_r6 {n : Nat} (h1 : x1.toInt = D.length) (hi : D.length < 40) (X : mpX s0 b h Θ D ((6, n1, n2, n3), (ax, x), t, f)) (B : mpB s0 D.length) (hD : tq_GD h.1 D) (hG : tp_G h.1 h.2.length ((6, n1, n2, n3), (ax, x), t, f)) (hpr : tq_pr Θ D ((6, n1, n2, n3), (ax, x), t, f)) (k : ∀ s', TKm s0 s' h Θ D ((6, n1, n2, n3), (ax, x), t, f) → R s') : pl_Cl n 257 [.ref 1131, .int x1] s0 (ps_rV R) := by
  cases n with
  | zero => exact pl_At_0
  | succ n =>
  show pl_At (n + 1) 257 0 [(0, .ref 1131), (1, .int x1)] [] s0 (ps_rV R)
  obtain ⟨b1, b2, b3⟩ := B
  have hA := arh_k (g := h.1) X.1.2.2.1.2.2.1 X.1.2.2.1.2.2.2.1
  have er : (ps_a s0 1152 D.length).toInt = (15 : Int) := X.2.2.2.1.trans rfl
  obtain ⟨wt, lt⟩ : ws (sg h.1) t [false] ∧ t.length ≤ 40 := hG.2.1 (of_decide_eq_true rfl)
  have Wt : mv_W s0 (24108 + 41 * D.length) t := X.2.2.2.2.2.2.2.2.2.1 (of_decide_eq_true rfl)
  refine pl_257_0 ?_
  rw [xtn h1]
  refine fm_244o (i := D.length) (fun v1 => ?_)
  intro _
  refine ⟨fun z => absurd (show (ps_a _ 1152 D.length).toInt = (11 : Int) from xeq z) (by omega), fun _ => ?_⟩
  refine ⟨fun z => absurd (show (ps_a _ 1152 D.length).toInt = (12 : Int) from xeq z) (by omega), fun _ => ?_⟩
  refine ⟨fun z => absurd (show (ps_a _ 1152 D.length).toInt = (13 : Int) from xeq z) (by omega), fun _ => ?_⟩
  refine ⟨fun z => absurd (show (ps_a _ 1152 D.length).toInt = (14 : Int) from xeq z) (by omega), fun _ => ?_⟩
  refine ⟨fun _ => ?_, fun z => absurd (show (ps_a _ 1152 D.length).toInt = (15 : Int) from er) (xne z)⟩
  refine fm_225 (c := 6) b2 rfl (by decide) (fun s2 M2 K2 => ?_)
  refine fm_227 (l := t) (rowT h1 hi) (by omega) (mv_W_kq Wt K2 (by decide)) M2 (by decide) (fun s3 M3 K3 => ?_)
  refine fm_227 (l := t) (rowT h1 hi) (by omega) (mv_W_kq (mv_W_kq Wt K2 (by decide)) K3 (by decide)) M3 (by rw [List.length_append]; show 1 + t.length < 50000; omega) (fun s4 M4 K4 => ?_)
  refine k s4 (TKm_mk tq_mk_6 ?_ M4 (Or.inr ?_) ?_ (PAm_kq (PAm_kq (PAm_kq b3 K2 (by decide) (by decide)) K3 (by decide) (by decide)) K4 (by decide) (by decide)) (by decide) (fun _ => ⟨?_, rfl⟩) (TKf_q (TKf_q (TKf_q TKf_refl K2 (by decide) (by decide) (by decide)) K3 (by decide) (by decide) (by decide)) K4 (by decide) (by decide) (by decide)))
  · rw [kq_i K4 50 (by decide), kq_i K3 50 (by decide), kq_i K2 50 (by decide)]
    exact b1
  · show ws (sg h.1) (6 :: (t ++ t)) [true]
    exact ws_c kS_f6 (ws_app (W1 := [false]) wt wt)
  · show (6 :: (t ++ t)).length ≤ 2000
    rw [List.length_cons, List.length_append]
    omega
  · rfl

theorem fm_257_r25 {n : Nat} (h1 : x1.toInt = D.length) (hi : D.length < 40) (X : mpX s0 b h Θ D ((25, n1, n2, n3), (ax, x), t, f)) (B : mpB s0 D.length) (hD : tq_GD h.1 D) (hG : tp_G h.1 h.2.length ((25, n1, n2, n3), (ax, x), t, f)) (hpr : tq_pr Θ D ((25, n1, n2, n3), (ax, x), t, f)) (k : ∀ s', TKm s0 s' h Θ D ((25, n1, n2, n3), (ax, x), t, f) → R s') : pl_Cl n 257 [.ref 1131, .int x1] s0 (ps_rV R) := by
  cases n with
  | zero => exact pl_At_0
  | succ n =>
  show pl_At (n + 1) 257 0 [(0, .ref 1131), (1, .int x1)] [] s0 (ps_rV R)
  obtain ⟨b1, b2, b3⟩ := B
  have hA := arh_k (g := h.1) X.1.2.2.1.2.2.1 X.1.2.2.1.2.2.2.1
  have er : (ps_a s0 1152 D.length).toInt = (16 : Int) := X.2.2.2.1.trans rfl
  have p1 : n1 < D.length := hpr.1 (of_decide_eq_true rfl)
  have e1 : (ps_a s0 1153 D.length).toInt = n1 := X.2.2.2.2.1 (of_decide_eq_true rfl)
  obtain ⟨⟨W1, w1, ne1, l1⟩, -⟩ := mprem X hD p1
  have p2 : n2 < D.length := hpr.2.1 (of_decide_eq_true rfl)
  have e2 : (ps_a s0 1154 D.length).toInt = n2 := X.2.2.2.2.2.1 (of_decide_eq_true rfl)
  obtain ⟨⟨W2, w2, ne2, l2⟩, -⟩ := mprem X hD p2
  obtain ⟨wf, lf⟩ : ws (sg h.1) f [true] ∧ f.length ≤ 40 := hG.2.2.1 (of_decide_eq_true rfl)
  have Wf : mv_W s0 (22468 + 41 * D.length) f := X.2.2.2.2.2.2.2.2.2.2 (of_decide_eq_true rfl)
  have at281 : ∀ {n' c : Nat} {L L' : List Nat} {s4 : ps_S}, tq_mk h Θ D ((25, n1, n2, n3), (ax, x), t, f) = (c, L', [], [], []) → (ps_i s4 1131 50).toInt = c → mk_M s4 L → (L = [] ∨ ws (sg h.1) L [true]) → L.length ≤ 2000 → PAm s4 D.length [] 0 → TKf D.length s0 s4 → (c = 0 → L = L') → pl_At n' 257 281 [(0, .ref 1131), (1, .int x1)] [] s4 (ps_rV R) := fun {n' c L L' s4} hm h50 M4 hw hl P4 T4 hL => by
    cases n' with
    | zero => exact pl_At_0
    | succ n' =>
    refine pl_257_281 ?_
    rw [xtn h1]
    intro _
    refine fm_249k X hD hi T4 h1 p1 (show (ps_a _ 1153 D.length).toInt = n1 from (mpX_TKf X hi T4).2.2.2.2.1 (of_decide_eq_true rfl)) M4 (Or.inl ⟨rfl, rfl⟩) (by decide) P4 (fun s5 P5 K5 => ?_)
    have T5 := TKf_A T4 K5
    have M5 := mk_M_kq M4 K5.1 (by decide) (by decide)
    have er5 := (kq_a T5.1 1152 (by decide))
    intro _
    clear er
    have er : (ps_a s5 1152 D.length).toInt = (16 : Int) := (mpX_TKf X hi T5).2.2.2.1.trans rfl
    refine ⟨fun z => absurd (show (ps_a _ 1152 D.length).toInt = (16 : Int) from er) (xne z), fun _ => ?_⟩
    intro _
    refine fm_249k X hD hi T5 h1 p2 (show (ps_a _ 1154 D.length).toInt = n2 from (mpX_TKf X hi T5).2.2.2.2.2.1 (of_decide_eq_true rfl)) M5 (Or.inl ⟨rfl, rfl⟩) (by decide) P5 (fun s6 P6 K6 => ?_)
    have T6 := TKf_A T5 K6
    have M6 := mk_M_kq M5 K6.1 (by decide) (by decide)
    have er6 := (kq_a T6.1 1152 (by decide))
    refine k s6 (TKm_mk hm ?_ M6 hw hl P6 (by decide) (fun w => ⟨hL w, rfl⟩) T6)
    rw [kq_i K6.1 50 (by decide), kq_i K5.1 50 (by decide)]
    exact h50
  have hm := tq_mk_25 (h := h) (Θ := Θ) (D := D) (n1 := n1) (n2 := n2) (n3 := n3) (ax := ax) (x := x) (t := t) (f := f)
  have at275 : ∀ {n' c : Nat} {L' : List Nat} {s1 : ps_S}, tq_mk h Θ D ((25, n1, n2, n3), (ax, x), t, f) = (c, L', [], [], []) → (c = 0 → f = L') → (ps_i s1 1131 50).toInt = c → mk_M s1 [] → PAm s1 D.length [] 0 → TKf D.length s0 s1 → pl_At n' 257 275 [(0, .ref 1131), (1, .int x1), (4, .int ((22468 : Int32) + ((41 : Int32) * x1)))] [] s1 (ps_rV R) := fun {n' c L' s1} hm hL h50 M1 P1 T1 => by
    cases n' with
    | zero => exact pl_At_0
    | succ n' =>
    refine pl_257_275 (fm_227 (l := f) (rowF h1 hi) (by omega) ((mpX_TKf X hi T1).2.2.2.2.2.2.2.2.2.2 (of_decide_eq_true rfl)) M1 (by decide) (fun s2 M2 K2 => ?_))
    exact at281 hm (by rw [kq_i K2 50 (by decide)]; exact h50) M2 (Or.inr wf) (by show f.length ≤ 2000; omega) (PAm_kq P1 K2 (by decide) (by decide)) (TKf_q T1 K2 (by decide) (by decide) (by decide)) hL
  refine pl_257_0 ?_
  rw [xtn h1]
  refine fm_244 (i := D.length) (m := n1) h1 e1 (by omega) (fun v1 q1 => ?_)
  intro _
  refine ⟨fun z => absurd (show (ps_a _ 1152 D.length).toInt = (11 : Int) from xeq z) (by omega), fun _ => ?_⟩
  refine ⟨fun z => absurd (show (ps_a _ 1152 D.length).toInt = (12 : Int) from xeq z) (by omega), fun _ => ?_⟩
  refine ⟨fun z => absurd (show (ps_a _ 1152 D.length).toInt = (13 : Int) from xeq z) (by omega), fun _ => ?_⟩
  refine ⟨fun z => absurd (show (ps_a _ 1152 D.length).toInt = (14 : Int) from xeq z) (by omega), fun _ => ?_⟩
  refine ⟨fun z => absurd (show (ps_a _ 1152 D.length).toInt = (15 : Int) from xeq z) (by omega), fun _ => ?_⟩
  refine fm_247 q1 (by omega) W1 ne1 (fun v2 c hc q2 => ⟨fun z => ?_, fun z => ?_⟩)
  · have z : v2.toInt = (6 : Int) := xeq z
    have hh : (tq_r D n1).head? = some 6 := by rw [hc]; congr 1; omega
    rw [if_pos hh] at hm
    obtain ⟨g1, g2, g3, g4⟩ := tq_half hA w1 hh (b0 := false) kS_f6
    have Wa : mv_W s0 (41 * n1) (6 :: (tq_1 (arh h.1) (tq_r D n1) ++ tq_2 (arh h.1) (tq_r D n1))) := by
      rw [← g4]
      exact W1
    refine fm_245 (i := D.length) (m := n2) h1 e2 (by omega) (fun v3 q3 => ?_)
    refine fm_260 X.1.1 X.1.2.1 X.1.2.2.1 g1 g2 q1 (by omega) Wa q3 (by omega) W2 (rowF h1 hi) (by omega) Wf (fun e => ⟨fun _ => ?_, fun w => absurd w (by decide)⟩) (fun e => ⟨fun w => absurd rfl w, fun _ => ?_⟩)
    · rw [if_pos e] at hm
      exact at275 hm (fun _ => rfl) b1 b2 b3 TKf_refl
    · rw [if_neg e] at hm
      refine fm_241 (z := 0) (c := 4) b1 rfl (fun s4 h50 K4 => ?_)
      exact at275 hm (fun w => by cases w) h50 (mk_M_kq b2 K4 (by decide) (by decide)) (PAm_kq b3 K4 (by decide) (by decide)) (TKf_q TKf_refl K4 (by decide) (by decide) (by decide))
  · have z : v2.toInt ≠ (6 : Int) := xne z
    rw [if_neg (fun w => by rw [hc] at w; cases w; exact z q2)] at hm
    refine fm_241 (z := 0) (c := 2) b1 rfl (fun s4 h50 K4 => ?_)
    exact at275 hm (fun w => by cases w) h50 (mk_M_kq b2 K4 (by decide) (by decide)) (PAm_kq b3 K4 (by decide) (by decide)) (TKf_q TKf_refl K4 (by decide) (by decide) (by decide))

theorem fm_258_r24 {n : Nat} (h1 : x1.toInt = D.length) (hi : D.length < 40) (X : mpX s0 b h Θ D ((24, n1, n2, n3), (ax, x), t, f)) (B : mpB s0 D.length) (hD : tq_GD h.1 D) (hG : tp_G h.1 h.2.length ((24, n1, n2, n3), (ax, x), t, f)) (hpr : tq_pr Θ D ((24, n1, n2, n3), (ax, x), t, f)) (k : ∀ s', TKm s0 s' h Θ D ((24, n1, n2, n3), (ax, x), t, f) → R s') : pl_Cl n 258 [.ref 1131, .int x1] s0 (ps_rV R) := by
  cases n with
  | zero => exact pl_At_0
  | succ n =>
  show pl_At (n + 1) 258 0 [(0, .ref 1131), (1, .int x1)] [] s0 (ps_rV R)
  obtain ⟨b1, b2, b3⟩ := B
  have hA := arh_k (g := h.1) X.1.2.2.1.2.2.1 X.1.2.2.1.2.2.2.1
  have er : (ps_a s0 1152 D.length).toInt = (14 : Int) := X.2.2.2.1.trans rfl
  have p1 : n1 < D.length := hpr.1 (of_decide_eq_true rfl)
  have e1 : (ps_a s0 1153 D.length).toInt = n1 := X.2.2.2.2.1 (of_decide_eq_true rfl)
  obtain ⟨⟨W1, w1, ne1, l1⟩, -⟩ := mprem X hD p1
  have p2 : n2 < D.length := hpr.2.1 (of_decide_eq_true rfl)
  have e2 : (ps_a s0 1154 D.length).toInt = n2 := X.2.2.2.2.2.1 (of_decide_eq_true rfl)
  obtain ⟨⟨W2, w2, ne2, l2⟩, -⟩ := mprem X hD p2
  have hx12 : x < 12 := hG.2.2.2.1 (of_decide_eq_true rfl)
  have ex : (ps_a s0 1156 D.length).toInt = x := X.2.2.2.2.2.2.2.2.1 (of_decide_eq_true rfl)
  have hm := tq_mk_24 (h := h) (Θ := Θ) (D := D) (n1 := n1) (n2 := n2) (n3 := n3) (ax := ax) (x := x) (t := t) (f := f)
  have wx : ws (sg h.1) [60 + x] [false] := ws_60 X.1.2.2.1.2.2.2.1 hx12
  have at72 : (tq_r D n1).head? = some 5 → ∀ (n' : Nat) {m : Nat} {x3 : Int32} {s1 : ps_S}, x3.toInt = m → m ≤ (tq_a D n2).length → (ps_i s1 1131 50).toInt = (c3 (((tq_r D n1).contains (60 + x) || (tq_r D n2).contains (60 + x)) || ((tq_a D n2).take m).any (fun y => !decide (y = tq_in (arh h.1) (tq_r D n1) [60 + x]) && y.contains (60 + x))) : Nat) → mk_M s1 (tq_in (arh h.1) (tq_r D n1) [60 + x]) → PAm s1 D.length [] 0 → TKf D.length s0 s1 → pl_At n' 258 72 [(0, .ref 1131), (1, .int x1), (3, .int x3)] [] s1 (ps_rV R) := by
    intro hh n'
    rw [if_pos hh] at hm
    induction n' with
    | zero => exact fun _ _ _ _ _ _ => pl_At_0
    | succ n' ih =>
      intro m x3 s1 h5 hm5 h50 M1 P1 T1
      have X1 := mpX_TKf X hi T1
      obtain ⟨⟨W2', -⟩, a1, a2, a3⟩ := mprem X1 hD p2
      have e2' : (ps_a s1 1154 D.length).toInt = n2 := X1.2.2.2.2.2.1 (of_decide_eq_true rfl)
      have ex' : (ps_a s1 1156 D.length).toInt = x := X1.2.2.2.2.2.2.2.2.1 (of_decide_eq_true rfl)
      refine pl_258_72 ?_
      rw [xtn h1, xtn e2']
      intro _
      intro _
      refine ⟨fun z => ?_, fun z => ?_⟩
      · have z := xle z
        intro _
        rw [List.take_of_length_le (by omega)] at h50
        refine fm_249k X hD hi T1 h1 p1 (show (ps_a _ 1153 D.length).toInt = n1 from (mpX_TKf X hi T1).2.2.2.2.1 (of_decide_eq_true rfl)) M1 (Or.inl ⟨rfl, rfl⟩) (by decide) P1 (fun s2 P2 K2 => ?_)
        have T2 := TKf_A T1 K2
        have M2 := mk_M_kq M1 K2.1 (by decide) (by decide)
        have er2 := (kq_a T2.1 1152 (by decide))
        intro _
        refine fm_249k X hD hi T2 h1 p2 (show (ps_a _ 1154 D.length).toInt = n2 from (mpX_TKf X hi T2).2.2.2.2.2.1 (of_decide_eq_true rfl)) M2 (Or.inr ⟨by decide, rfl⟩) (by decide) P2 (fun s3 P3 K3 => ?_)
        have T3 := TKf_A T2 K3
        have M3 := mk_M_kq M2 K3.1 (by decide) (by decide)
        have er3 := (kq_a T3.1 1152 (by decide))
        have X3 := mpX_TKf X hi (TKf_0 T3)
        refine fm_245 (i := D.length) (m := n2) h1 (X3.2.2.2.2.2.1 (of_decide_eq_true rfl)) (by omega) (fun v8 q8 => ?_)
        refine fm_227 (l := tq_r D n2) q8 (by omega) (mprem X3 hD p2).1.1 mk_M_0 (by decide) (fun s9 M9 K9 => ?_)
        have h9 : ps_i s9 1131 50 = ps_i s1 1131 50 := by
          rw [kq_i K9 50 (by decide)]
          show ps_i s3 1131 50 = _
          rw [kq_i K3.1 50 (by decide), kq_i K2.1 50 (by decide)]
        rw [← h9] at h50
        by_cases hc : (tq_r D n1).contains (60 + x) = true ∨ (tq_r D n2).contains (60 + x) = true ∨ (tq_a D n2).any (fun y => !decide (y = tq_in (arh h.1) (tq_r D n1) [60 + x]) && y.contains (60 + x)) = true
        · rw [if_pos hc] at hm
          have e : (((tq_r D n1).contains (60 + x) || (tq_r D n2).contains (60 + x)) || (tq_a D n2).any (fun y => !decide (y = tq_in (arh h.1) (tq_r D n1) [60 + x]) && y.contains (60 + x))) = true := by
            rcases hc with hc | hc | hc
            · rw [hc]
              rfl
            · rw [hc, Bool.or_true]
              rfl
            · rw [hc, Bool.or_true]
          rw [e] at h50
          exact k s9 (TKm_mk hm h50 M9 (Or.inr w2) (by show (tq_r D n2).length ≤ 2000; omega) (PAm_kq (PAm_0 P3) K9 (by decide) (by decide)) (by decide) (fun w => by cases w) (TKf_q (TKf_0 T3) K9 (by decide) (by decide) (by decide)))
        · rw [if_neg hc] at hm
          have e : (((tq_r D n1).contains (60 + x) || (tq_r D n2).contains (60 + x)) || (tq_a D n2).any (fun y => !decide (y = tq_in (arh h.1) (tq_r D n1) [60 + x]) && y.contains (60 + x))) = false := by
            rw [Bool.eq_false_iff.mpr (fun w => hc (Or.inl w)), Bool.eq_false_iff.mpr (fun w => hc (Or.inr (Or.inl w))), Bool.eq_false_iff.mpr (fun w => hc (Or.inr (Or.inr w)))]
            rfl
          rw [e] at h50
          exact k s9 (TKm_mk hm h50 M9 (Or.inr w2) (by show (tq_r D n2).length ≤ 2000; omega) (PAm_kq (PAm_0 P3) K9 (by decide) (by decide)) (by decide) (fun _ => ⟨rfl, rfl⟩) (TKf_q (TKf_0 T3) K9 (by decide) (by decide) (by decide)))
      · have z := xlt z
        intro _
        obtain ⟨y, hy⟩ : ∃ y, (tq_a D n2)[m]? = some y := ⟨_, List.getElem?_eq_getElem (by omega)⟩
        obtain ⟨Wy, -⟩ := a3 m y hy
        have hts := any_ts (p := (fun y => !decide (y = tq_in (arh h.1) (tq_r D n1) [60 + x]) && y.contains (60 + x))) hy
        refine fm_243 (i := n2) (m := m) e2' (by omega) h5 (by omega) (fun v2 q2 => ?_)
        refine fm_230 q2 (by omega) Wy M1 (fun e => ⟨fun _ => ?_, fun w => absurd w (by decide)⟩) (fun e => ⟨fun w => absurd rfl w, fun _ => ?_⟩)
        · refine ih (m := m + 1) (xj1 h5 (by omega)) (by omega) ?_ M1 P1 T1
          have e0 : (fun y => !decide (y = tq_in (arh h.1) (tq_r D n1) [60 + x]) && y.contains (60 + x)) y = false := by
            show (!decide (y = tq_in (arh h.1) (tq_r D n1) [60 + x]) && y.contains (60 + x)) = false
            rw [decide_eq_true e]
            rfl
          rw [h50, hts, ← Bool.or_assoc, ← c3_no e0]
        · intro _
          have e1' : (!decide (y = tq_in (arh h.1) (tq_r D n1) [60 + x])) = true := by
            rw [decide_eq_false e]
            rfl
          refine fm_223c q2 (by omega) Wy ex' (by omega) (fun e2 => ⟨fun w => absurd w (by decide), fun _ => ?_⟩) (fun e2 => ⟨fun _ => ?_, fun w => absurd rfl w⟩)
          · refine fm_241 (c := 3) h50 rfl (fun s2 h52 K2 => ?_)
            refine ih (m := m + 1) (xj1 h5 (by omega)) (by omega) ?_ (mk_M_kq M1 K2 (by decide) (by decide)) (PAm_kq P1 K2 (by decide) (by decide)) (TKf_q T1 K2 (by decide) (by decide) (by decide))
            have e0 : (fun y => !decide (y = tq_in (arh h.1) (tq_r D n1) [60 + x]) && y.contains (60 + x)) y = true := by
              show (!decide (y = tq_in (arh h.1) (tq_r D n1) [60 + x]) && y.contains (60 + x)) = true
              rw [e1', e2]
              rfl
            rw [h52, hts, ← Bool.or_assoc, c3_or e0]
          · refine ih (m := m + 1) (xj1 h5 (by omega)) (by omega) ?_ M1 P1 T1
            have e0 : (fun y => !decide (y = tq_in (arh h.1) (tq_r D n1) [60 + x]) && y.contains (60 + x)) y = false := by
              show (!decide (y = tq_in (arh h.1) (tq_r D n1) [60 + x]) && y.contains (60 + x)) = false
              rw [Bool.eq_false_iff.mpr e2, Bool.and_false]
            rw [h50, hts, ← Bool.or_assoc, ← c3_no e0]
  have at58 : (tq_r D n1).head? = some 5 → ∀ {n' : Nat} {s1 : ps_S} {v1 : Int32}, v1.toInt = (41 * n1 : Nat) → (ps_i s1 1131 50).toInt = (c3 ((tq_r D n1).contains (60 + x) || (tq_r D n2).contains (60 + x)) : Nat) → mk_M s1 [] → PAm s1 D.length [] 0 → TKf D.length s0 s1 → pl_At n' 258 58 [(0, .ref 1131), (1, .int x1), (2, .int v1)] [] s1 (ps_rV R) := fun hh {n' s1 v1} q1 h50 M1 P1 T1 => by
    cases n' with
    | zero => exact pl_At_0
    | succ n' =>
    have X1 := mpX_TKf X hi T1
    refine pl_258_58 ?_
    rw [xtn h1]
    intro _
    refine fm_231 (L0 := []) (tt := [60 + x]) X1.1.1 X1.1.2.1 X1.1.2.2.1 q1 (by omega) (mprem X1 hD p1).1.1 w1 (Or.inr hh) M1 ⟨Nat.zero_le _, (by decide : 1 ≤ 40), Or.inl ⟨by decide, x, X1.2.2.2.2.2.2.2.2.1 (of_decide_eq_true rfl), by omega, rfl⟩⟩ (fun s2 M2 K2 => ?_)
    refine at72 hh n' (m := 0) rfl (Nat.zero_le _) ?_ M2 (PAm_kq P1 K2 (by decide) (by decide)) (TKf_q T1 K2 (by decide) (by decide) (by decide))
    rw [kq_i K2 50 (by decide), h50, List.take_zero]
    show _ = ((c3 (_ || false) : Nat) : Int)
    rw [Bool.or_false]
  have at53 : (tq_r D n1).head? = some 5 → ((tq_r D n1).contains (60 + x) || (tq_r D n2).contains (60 + x)) = true → ∀ {n' : Nat} {v1 : Int32}, v1.toInt = (41 * n1 : Nat) → pl_At n' 258 53 [(0, .ref 1131), (1, .int x1), (2, .int v1)] [] s0 (ps_rV R) := fun hh hc {n' v1} q1 => by
    cases n' with
    | zero => exact pl_At_0
    | succ n' =>
    refine pl_258_53 (fm_241 (z := 0) (c := 3) b1 rfl (fun s4 h50 K4 => ?_))
    refine at58 hh q1 ?_ (mk_M_kq b2 K4 (by decide) (by decide)) (PAm_kq b3 K4 (by decide) (by decide)) (TKf_q TKf_refl K4 (by decide) (by decide) (by decide))
    rw [h50, hc]
    rfl
  refine pl_258_0 ?_
  rw [xtn h1]
  refine fm_244 (i := D.length) (m := n1) h1 e1 (by omega) (fun v1 q1 => ?_)
  refine fm_247 q1 (by omega) W1 ne1 (fun v2 c hc q2 => ⟨fun z => ?_, fun z => ?_⟩)
  · have z : v2.toInt = (5 : Int) := xeq z
    have hh : (tq_r D n1).head? = some 5 := by rw [hc]; congr 1; omega
    intro _
    refine fm_223c q1 (by omega) W1 ex (by omega) (fun e => ⟨fun _ => at53 hh (by rw [e]; rfl) q1, fun w => absurd w (by decide)⟩) (fun e => ⟨fun w => absurd rfl w, fun _ => ?_⟩)
    refine fm_245 (i := D.length) (m := n2) h1 e2 (by omega) (fun v3 q3 => ?_)
    intro _
    refine fm_223c q3 (by omega) W2 ex (by omega) (fun e3 => ⟨fun w => absurd w (by decide), fun _ => at53 hh (by rw [e3, Bool.or_true]) q1⟩) (fun e3 => ⟨fun _ => ?_, fun w => absurd rfl w⟩)
    refine at58 hh q1 ?_ b2 b3 TKf_refl
    rw [b1, Bool.eq_false_iff.mpr e, Bool.eq_false_iff.mpr e3]
    rfl
  · have z : v2.toInt ≠ (5 : Int) := xne z
    rw [if_neg (fun w => by rw [hc] at w; cases w; exact z q2)] at hm
    refine fm_241 (z := 0) (c := 2) b1 rfl (fun s4 h50 K4 => ?_)
    exact k s4 (TKm_mk hm h50 (mk_M_kq b2 K4 (by decide) (by decide)) (Or.inl rfl) (Nat.zero_le _) (PAm_kq b3 K4 (by decide) (by decide)) (by decide) (fun w => by cases w) (TKf_q TKf_refl K4 (by decide) (by decide) (by decide)))

theorem fm_257_r24 {n : Nat} (h1 : x1.toInt = D.length) (hi : D.length < 40) (X : mpX s0 b h Θ D ((24, n1, n2, n3), (ax, x), t, f)) (B : mpB s0 D.length) (hD : tq_GD h.1 D) (hG : tp_G h.1 h.2.length ((24, n1, n2, n3), (ax, x), t, f)) (hpr : tq_pr Θ D ((24, n1, n2, n3), (ax, x), t, f)) (k : ∀ s', TKm s0 s' h Θ D ((24, n1, n2, n3), (ax, x), t, f) → R s') : pl_Cl n 257 [.ref 1131, .int x1] s0 (ps_rV R) := by
  cases n with
  | zero => exact pl_At_0
  | succ n =>
  show pl_At (n + 1) 257 0 [(0, .ref 1131), (1, .int x1)] [] s0 (ps_rV R)
  obtain ⟨b1, b2, b3⟩ := B
  have hA := arh_k (g := h.1) X.1.2.2.1.2.2.1 X.1.2.2.1.2.2.2.1
  have er : (ps_a s0 1152 D.length).toInt = (14 : Int) := X.2.2.2.1.trans rfl
  have p1 : n1 < D.length := hpr.1 (of_decide_eq_true rfl)
  have e1 : (ps_a s0 1153 D.length).toInt = n1 := X.2.2.2.2.1 (of_decide_eq_true rfl)
  obtain ⟨⟨W1, w1, ne1, l1⟩, -⟩ := mprem X hD p1
  have p2 : n2 < D.length := hpr.2.1 (of_decide_eq_true rfl)
  have e2 : (ps_a s0 1154 D.length).toInt = n2 := X.2.2.2.2.2.1 (of_decide_eq_true rfl)
  obtain ⟨⟨W2, w2, ne2, l2⟩, -⟩ := mprem X hD p2
  have hx12 : x < 12 := hG.2.2.2.1 (of_decide_eq_true rfl)
  have ex : (ps_a s0 1156 D.length).toInt = x := X.2.2.2.2.2.2.2.2.1 (of_decide_eq_true rfl)
  refine pl_257_0 ?_
  rw [xtn h1]
  refine fm_244 (i := D.length) (m := n1) h1 e1 (by omega) (fun v1 q1 => ?_)
  intro _
  refine ⟨fun z => absurd (show (ps_a _ 1152 D.length).toInt = (11 : Int) from xeq z) (by omega), fun _ => ?_⟩
  refine ⟨fun z => absurd (show (ps_a _ 1152 D.length).toInt = (12 : Int) from xeq z) (by omega), fun _ => ?_⟩
  refine ⟨fun z => absurd (show (ps_a _ 1152 D.length).toInt = (13 : Int) from xeq z) (by omega), fun _ => ?_⟩
  refine ⟨fun _ => ?_, fun z => absurd (show (ps_a _ 1152 D.length).toInt = (14 : Int) from er) (xne z)⟩
  exact fm_258_r24 h1 hi X ⟨b1, b2, b3⟩ hD hG hpr k

end TKB
end
section
set_option maxRecDepth 100000
/-! the reference: a step taken; the steps of a proof -/
-- ProofBenchModel.takesStep(I)V
theorem pl_252_0 {n : Nat} {x1 : Int32} {s : ps_S} {Q : Option Value → ps_S → Prop} (h :
  (pm_in x1 40 = true →
    ((ps_a (ps_ui (ps_ui (ps_ui s 1131 50 0) 1131 51 0) 1131 34 0) 1152 (Int32.toNatClampNeg x1)) ≠ 1 →
      (pm_in x1 40 = true →
        (pm_in x1 40 = true →
          ((ps_a (ps_ua (ps_ui (ps_ui (ps_ui s 1131 50 0) 1131 51 0) 1131 34 0) 1158 (Int32.toNatClampNeg x1) 0) 1152 (Int32.toNatClampNeg x1)) ≠ 2 →
            (pm_in x1 40 = true →
              pl_At n 252 84 [(0, .ref 1131), (1, .int x1)] [] (ps_ua (ps_ua (ps_ui (ps_ui (ps_ui s 1131 50 0) 1131 51 0) 1131 34 0) 1158 (Int32.toNatClampNeg x1) 0) 1159 (Int32.toNatClampNeg x1) 0) Q)) ∧
          ((ps_a (ps_ua (ps_ui (ps_ui (ps_ui s 1131 50 0) 1131 51 0) 1131 34 0) 1158 (Int32.toNatClampNeg x1) 0) 1152 (Int32.toNatClampNeg x1)) = 2 →
            (pm_in x1 40 = true →
              ((ps_i (ps_ua (ps_ui (ps_ui (ps_ui s 1131 50 0) 1131 51 0) 1131 34 0) 1158 (Int32.toNatClampNeg x1) 0) 1131 54) ≤ (ps_a (ps_ua (ps_ui (ps_ui (ps_ui s 1131 50 0) 1131 51 0) 1131 34 0) 1158 (Int32.toNatClampNeg x1) 0) 1153 (Int32.toNatClampNeg x1)) →
                (pm_in x1 40 = true →
                  pl_At n 252 84 [(0, .ref 1131), (1, .int x1)] [] (ps_ua (ps_ua (ps_ui (ps_ui (ps_ui s 1131 50 0) 1131 51 0) 1131 34 0) 1158 (Int32.toNatClampNeg x1) 0) 1159 (Int32.toNatClampNeg x1) 0) Q)) ∧
              ((ps_a (ps_ua (ps_ui (ps_ui (ps_ui s 1131 50 0) 1131 51 0) 1131 34 0) 1158 (Int32.toNatClampNeg x1) 0) 1153 (Int32.toNatClampNeg x1)) < (ps_i (ps_ua (ps_ui (ps_ui (ps_ui s 1131 50 0) 1131 51 0) 1131 34 0) 1158 (Int32.toNatClampNeg x1) 0) 1131 54) →
                (pm_in x1 40 = true →
                  (pm_in x1 40 = true →
                    pl_At n 252 84 [(0, .ref 1131), (1, .int x1)] [] (ps_ua (ps_ua (ps_ui (ps_ui (ps_ui s 1131 50 0) 1131 51 0) 1131 34 0) 1158 (Int32.toNatClampNeg x1) 0) 1159 (Int32.toNatClampNeg x1) ((1 : Int32) <<< ((ps_a (ps_ua (ps_ui (ps_ui (ps_ui s 1131 50 0) 1131 51 0) 1131 34 0) 1158 (Int32.toNatClampNeg x1) 0) 1153 (Int32.toNatClampNeg x1)) &&& 31))) Q)))))))) ∧
    ((ps_a (ps_ui (ps_ui (ps_ui s 1131 50 0) 1131 51 0) 1131 34 0) 1152 (Int32.toNatClampNeg x1)) = 1 →
      (pm_in x1 40 = true →
        (pm_in x1 40 = true →
          (pm_in x1 40 = true →
            ((ps_a (ps_ua (ps_ui (ps_ui (ps_ui s 1131 50 0) 1131 51 0) 1131 34 0) 1158 (Int32.toNatClampNeg x1) ((1 : Int32) <<< ((ps_a (ps_ui (ps_ui (ps_ui s 1131 50 0) 1131 51 0) 1131 34 0) 1153 (Int32.toNatClampNeg x1)) &&& 31))) 1152 (Int32.toNatClampNeg x1)) ≠ 2 →
              (pm_in x1 40 = true →
                pl_At n 252 84 [(0, .ref 1131), (1, .int x1)] [] (ps_ua (ps_ua (ps_ui (ps_ui (ps_ui s 1131 50 0) 1131 51 0) 1131 34 0) 1158 (Int32.toNatClampNeg x1) ((1 : Int32) <<< ((ps_a (ps_ui (ps_ui (ps_ui s 1131 50 0) 1131 51 0) 1131 34 0) 1153 (Int32.toNatClampNeg x1)) &&& 31))) 1159 (Int32.toNatClampNeg x1) 0) Q)) ∧
            ((ps_a (ps_ua (ps_ui (ps_ui (ps_ui s 1131 50 0) 1131 51 0) 1131 34 0) 1158 (Int32.toNatClampNeg x1) ((1 : Int32) <<< ((ps_a (ps_ui (ps_ui (ps_ui s 1131 50 0) 1131 51 0) 1131 34 0) 1153 (Int32.toNatClampNeg x1)) &&& 31))) 1152 (Int32.toNatClampNeg x1)) = 2 →
              (pm_in x1 40 = true →
                ((ps_i (ps_ua (ps_ui (ps_ui (ps_ui s 1131 50 0) 1131 51 0) 1131 34 0) 1158 (Int32.toNatClampNeg x1) ((1 : Int32) <<< ((ps_a (ps_ui (ps_ui (ps_ui s 1131 50 0) 1131 51 0) 1131 34 0) 1153 (Int32.toNatClampNeg x1)) &&& 31))) 1131 54) ≤ (ps_a (ps_ua (ps_ui (ps_ui (ps_ui s 1131 50 0) 1131 51 0) 1131 34 0) 1158 (Int32.toNatClampNeg x1) ((1 : Int32) <<< ((ps_a (ps_ui (ps_ui (ps_ui s 1131 50 0) 1131 51 0) 1131 34 0) 1153 (Int32.toNatClampNeg x1)) &&& 31))) 1153 (Int32.toNatClampNeg x1)) →
                  (pm_in x1 40 = true →
                    pl_At n 252 84 [(0, .ref 1131), (1, .int x1)] [] (ps_ua (ps_ua (ps_ui (ps_ui (ps_ui s 1131 50 0) 1131 51 0) 1131 34 0) 1158 (Int32.toNatClampNeg x1) ((1 : Int32) <<< ((ps_a (ps_ui (ps_ui (ps_ui s 1131 50 0) 1131 51 0) 1131 34 0) 1153 (Int32.toNatClampNeg x1)) &&& 31))) 1159 (Int32.toNatClampNeg x1) 0) Q)) ∧
                ((ps_a (ps_ua (ps_ui (ps_ui (ps_ui s 1131 50 0) 1131 51 0) 1131 34 0) 1158 (Int32.toNatClampNeg x1) ((1 : Int32) <<< ((ps_a (ps_ui (ps_ui (ps_ui s 1131 50 0) 1131 51 0) 1131 34 0) 1153 (Int32.toNatClampNeg x1)) &&& 31))) 1153 (Int32.toNatClampNeg x1)) < (ps_i (ps_ua (ps_ui (ps_ui (ps_ui s 1131 50 0) 1131 51 0) 1131 34 0) 1158 (Int32.toNatClampNeg x1) ((1 : Int32) <<< ((ps_a (ps_ui (ps_ui (ps_ui s 1131 50 0) 1131 51 0) 1131 34 0) 1153 (Int32.toNatClampNeg x1)) &&& 31))) 1131 54) →
                  (pm_in x1 40 = true →
                    (pm_in x1 40 = true →
                      pl_At n 252 84 [(0, .ref 1131), (1, .int x1)] [] (ps_ua (ps_ua (ps_ui (ps_ui (ps_ui s 1131 50 0) 1131 51 0) 1131 34 0) 1158 (Int32.toNatClampNeg x1) ((1 : Int32) <<< ((ps_a (ps_ui (ps_ui (ps_ui s 1131 50 0) 1131 51 0) 1131 34 0) 1153 (Int32.toNatClampNeg x1)) &&& 31))) 1159 (Int32.toNatClampNeg x1) ((1 : Int32) <<< ((ps_a (ps_ua (ps_ui (ps_ui (ps_ui s 1131 50 0) 1131 51 0) 1131 34 0) 1158 (Int32.toNatClampNeg x1) ((1 : Int32) <<< ((ps_a (ps_ui (ps_ui (ps_ui s 1131 50 0) 1131 51 0) 1131 34 0) 1153 (Int32.toNatClampNeg x1)) &&& 31))) 1153 (Int32.toNatClampNeg x1)) &&& 31))) Q))))))))))) : pl_At (n + 1) 252 0 [(0, .ref 1131), (1, .int x1)] [] s Q :=
  pl_wp_at (stops := [(84, [0, 1]), (146, [0, 1, 2]), (162, [0, 1, 2]), (178, [0, 1]), (219, [0, 1]), (232, [0, 1]), (248, [0, 1]), (253, [0, 1])]) (f := 86) h rfl

theorem pl_252_84 {n : Nat} {x1 : Int32} {s : ps_S} {Q : Option Value → ps_S → Prop} (h :
  (pm_in x1 40 = true →
    pl_Cl n 250 [.ref 1131, .int x1] (ps_ub s 1160 (Int32.toNatClampNeg x1) ((1 : Int64) <<< (Int32.toInt64 x1 &&& 63))) (ps_rI (fun v1 s1 =>
      (v1 ≠ 0 →
        (pm_in x1 40 = true →
          ((ps_a s1 1152 (Int32.toNatClampNeg x1)) ≠ 2 →
            (pm_in x1 40 = true →
              pl_Cl n 234 [.int (ps_a s1 1152 (Int32.toNatClampNeg x1))] s1 (ps_rI (fun v2 s2 =>
                (v2 ≤ 0 →
                  pl_At n 252 146 [(0, .ref 1131), (1, .int x1), (2, .int v2)] [] s2 Q) ∧
                (0 < v2 →
                  (pm_in x1 40 = true →
                    pl_Cl n 251 [.ref 1131, .int x1, .int (ps_a s2 1153 (Int32.toNatClampNeg x1))] s2 (ps_rV (fun s3 =>
                      pl_At n 252 146 [(0, .ref 1131), (1, .int x1), (2, .int v2)] [] s3 Q)))))))) ∧
          ((ps_a s1 1152 (Int32.toNatClampNeg x1)) = 2 →
            ((0 : Int32) ≤ 0 →
              pl_At n 252 146 [(0, .ref 1131), (1, .int x1), (2, .int 0)] [] s1 Q) ∧
            ((0 : Int32) < (0 : Int32) →
              (pm_in x1 40 = true →
                pl_Cl n 251 [.ref 1131, .int x1, .int (ps_a s1 1153 (Int32.toNatClampNeg x1))] s1 (ps_rV (fun s4 =>
                  pl_At n 252 146 [(0, .ref 1131), (1, .int x1), (2, .int 0)] [] s4 Q))))))) ∧
      (v1 = 0 →
        pl_Cl n 241 [.ref 1131, .int 1] s1 (ps_rV (fun s5 =>
          Q none s5))))))) : pl_At (n + 1) 252 84 [(0, .ref 1131), (1, .int x1)] [] s Q :=
  pl_wp_at (stops := [(84, [0, 1]), (146, [0, 1, 2]), (162, [0, 1, 2]), (178, [0, 1]), (219, [0, 1]), (232, [0, 1]), (248, [0, 1]), (253, [0, 1])]) (f := 50) h rfl

theorem pl_252_146 {n : Nat} {x1 : Int32} {x2 : Int32} {s : ps_S} {Q : Option Value → ps_S → Prop} (h :
  (x2 ≤ 1 →
    pl_At n 252 162 [(0, .ref 1131), (1, .int x1), (2, .int x2)] [] s Q) ∧
  (1 < x2 →
    (pm_in x1 40 = true →
      pl_Cl n 251 [.ref 1131, .int x1, .int (ps_a s 1154 (Int32.toNatClampNeg x1))] s (ps_rV (fun s1 =>
        pl_At n 252 162 [(0, .ref 1131), (1, .int x1), (2, .int x2)] [] s1 Q))))) : pl_At (n + 1) 252 146 [(0, .ref 1131), (1, .int x1), (2, .int x2)] [] s Q :=
  pl_wp_at (stops := [(84, [0, 1]), (146, [0, 1, 2]), (162, [0, 1, 2]), (178, [0, 1]), (219, [0, 1]), (232, [0, 1]), (248, [0, 1]), (253, [0, 1])]) (f := 12) h rfl

theorem pl_252_162 {n : Nat} {x1 : Int32} {x2 : Int32} {s : ps_S} {Q : Option Value → ps_S → Prop} (h :
  (x2 ≤ 2 →
    pl_At n 252 178 [(0, .ref 1131), (1, .int x1)] [] s Q) ∧
  (2 < x2 →
    (pm_in x1 40 = true →
      pl_Cl n 251 [.ref 1131, .int x1, .int (ps_a s 1155 (Int32.toNatClampNeg x1))] s (ps_rV (fun s1 =>
        pl_At n 252 178 [(0, .ref 1131), (1, .int x1)] [] s1 Q))))) : pl_At (n + 1) 252 162 [(0, .ref 1131), (1, .int x1), (2, .int x2)] [] s Q :=
  pl_wp_at (stops := [(84, [0, 1]), (146, [0, 1, 2]), (162, [0, 1, 2]), (178, [0, 1]), (219, [0, 1]), (232, [0, 1]), (248, [0, 1]), (253, [0, 1])]) (f := 12) h rfl

theorem pl_252_178 {n : Nat} {x1 : Int32} {s : ps_S} {Q : Option Value → ps_S → Prop} (h :
  (pm_in x1 40 = true →
    (8 ≤ (ps_a s 1152 (Int32.toNatClampNeg x1)) →
      (pm_in x1 40 = true →
        ((ps_a s 1152 (Int32.toNatClampNeg x1)) < 11 →
          pl_At n 252 219 [(0, .ref 1131), (1, .int x1)] [] s Q) ∧
        (11 ≤ (ps_a s 1152 (Int32.toNatClampNeg x1)) →
          (pm_in x1 40 = true →
            ((ps_a s 1152 (Int32.toNatClampNeg x1)) ≤ 16 →
              pl_Cl n 257 [.ref 1131, .int x1] s (ps_rV (fun s1 =>
                pl_At n 252 232 [(0, .ref 1131), (1, .int x1)] [] s1 Q))) ∧
            (16 < (ps_a s 1152 (Int32.toNatClampNeg x1)) →
              pl_At n 252 219 [(0, .ref 1131), (1, .int x1)] [] s Q))))) ∧
    ((ps_a s 1152 (Int32.toNatClampNeg x1)) < 8 →
      pl_Cl n 253 [.ref 1131, .int x1] s (ps_rV (fun s2 =>
        pl_At n 252 232 [(0, .ref 1131), (1, .int x1)] [] s2 Q))))) : pl_At (n + 1) 252 178 [(0, .ref 1131), (1, .int x1)] [] s Q :=
  pl_wp_at (stops := [(84, [0, 1]), (146, [0, 1, 2]), (162, [0, 1, 2]), (178, [0, 1]), (219, [0, 1]), (232, [0, 1]), (248, [0, 1]), (253, [0, 1])]) (f := 27) h rfl

theorem pl_252_219 {n : Nat} {x1 : Int32} {s : ps_S} {Q : Option Value → ps_S → Prop} (h :
  pl_Cl n 255 [.ref 1131, .int x1] s (ps_rV (fun s1 =>
    pl_At n 252 232 [(0, .ref 1131), (1, .int x1)] [] s1 Q))) : pl_At (n + 1) 252 219 [(0, .ref 1131), (1, .int x1)] [] s Q :=
  pl_wp_at (stops := [(84, [0, 1]), (146, [0, 1, 2]), (162, [0, 1, 2]), (178, [0, 1]), (219, [0, 1]), (232, [0, 1]), (248, [0, 1]), (253, [0, 1])]) (f := 6) h rfl

theorem pl_252_232 {n : Nat} {x1 : Int32} {s : ps_S} {Q : Option Value → ps_S → Prop} (h :
  (12 < (ps_i s 1131 51) →
    pl_At n 252 248 [(0, .ref 1131), (1, .int x1)] [] s Q) ∧
  ((ps_i s 1131 51) ≤ 12 →
    pl_Cl n 228 [.ref 1131] s (ps_rI (fun v1 s1 =>
      (v1 ≠ 0 →
        pl_At n 252 253 [(0, .ref 1131), (1, .int x1)] [] s1 Q) ∧
      (v1 = 0 →
        pl_At n 252 248 [(0, .ref 1131), (1, .int x1)] [] s1 Q))))) : pl_At (n + 1) 252 232 [(0, .ref 1131), (1, .int x1)] [] s Q :=
  pl_wp_at (stops := [(84, [0, 1]), (146, [0, 1, 2]), (162, [0, 1, 2]), (178, [0, 1]), (219, [0, 1]), (232, [0, 1]), (248, [0, 1]), (253, [0, 1])]) (f := 9) h rfl

theorem pl_252_248 {n : Nat} {x1 : Int32} {s : ps_S} {Q : Option Value → ps_S → Prop} (h :
  pl_Cl n 241 [.ref 1131, .int 5] s (ps_rV (fun s1 =>
    pl_At n 252 253 [(0, .ref 1131), (1, .int x1)] [] s1 Q))) : pl_At (n + 1) 252 248 [(0, .ref 1131), (1, .int x1)] [] s Q :=
  pl_wp_at (stops := [(84, [0, 1]), (146, [0, 1, 2]), (162, [0, 1, 2]), (178, [0, 1]), (219, [0, 1]), (232, [0, 1]), (248, [0, 1]), (253, [0, 1])]) (f := 5) h rfl

theorem pl_252_253 {n : Nat} {x1 : Int32} {s : ps_S} {Q : Option Value → ps_S → Prop} (h :
  ((ps_i s 1131 50) ≤ 0 →
    pl_Cl n 242 [.int x1] s (ps_rI (fun v1 s1 =>
      pl_Cl n 229 [.ref 1131, .int v1] s1 (ps_rV (fun s2 =>
        (pm_in x1 41 = true →
          Q none (ps_ua s2 1157 (Int32.toNatClampNeg x1) (ps_i s2 1131 51)))))))) ∧
  (0 < (ps_i s 1131 50) →
    Q none s)) : pl_At (n + 1) 252 253 [(0, .ref 1131), (1, .int x1)] [] s Q :=
  pl_wp_at (stops := [(84, [0, 1]), (146, [0, 1, 2]), (162, [0, 1, 2]), (178, [0, 1]), (219, [0, 1]), (232, [0, 1]), (248, [0, 1]), (253, [0, 1])]) (f := 17) h rfl

/-- what a step may change -/
def KS (i : Nat) (s0 s : ps_S) : Prop := kq [1134, 1149, 1150, 1151, 1157, 1158, 1159, 1160] [34, 50, 51] s0 s ∧ (∀ q, (q < 41 * i ∨ 41 * i + 41 ≤ q) → (q < 1640 + 492 * i ∨ 1640 + 492 * i + 492 ≤ q) → ps_a s 1134 q = ps_a s0 1134 q) ∧ ∀ j, j ≠ i → ps_a s 1157 j = ps_a s0 1157 j ∧ ps_a s 1158 j = ps_a s0 1158 j ∧ ps_a s 1159 j = ps_a s0 1159 j ∧ ps_b s 1160 j = ps_b s0 1160 j
theorem KS_refl {i : Nat} {s : ps_S} : KS i s s := ⟨kq_refl, fun _ _ _ => rfl, fun _ _ => ⟨rfl, rfl, rfl, rfl⟩⟩
theorem KS_tr {i : Nat} {s0 s s' : ps_S} (K : KS i s0 s) (q : KS i s s') : KS i s0 s' := ⟨kqt K.1 q.1 (by decide) (by decide), fun p a b => (q.2.1 p a b).trans (K.2.1 p a b), fun j hj => by
  obtain ⟨a1, a2, a3, a4⟩ := q.2.2 j hj
  obtain ⟨b1, b2, b3, b4⟩ := K.2.2 j hj
  exact ⟨a1.trans b1, a2.trans b2, a3.trans b3, a4.trans b4⟩⟩
theorem KS_q {i : Nat} {A F : List Nat} {s s' : ps_S} (q : kq A F s s') (hA : A.all (fun a => [1149, 1150, 1151].contains a) = true) (hF : F.all (fun a => [34, 50, 51].contains a) = true) : KS i s s' := by
  have n : ∀ r, r ∈ [1134, 1157, 1158, 1159, 1160] → A.contains r = false := fun r hr => by
    rw [Bool.eq_false_iff]
    intro z
    have := List.all_eq_true.mp hA r (List.contains_iff_mem.mp z)
    clear z
    revert hr this
    revert r
    decide
  refine ⟨kqt kq_refl q (List.all_eq_true.mpr (fun a ha => ?_)) hF, fun p _ _ => by rw [kq_a q 1134 (n 1134 (by decide))], fun j _ => ⟨by rw [kq_a q 1157 (n 1157 (by decide))], by rw [kq_a q 1158 (n 1158 (by decide))], by rw [kq_a q 1159 (n 1159 (by decide))], by rw [kq_b q 1160 (n 1160 (by decide))]⟩⟩
  have := List.all_eq_true.mp hA a ha
  revert this
  rw [List.contains_iff_mem, List.contains_iff_mem]
  intro this
  simp only [List.mem_cons, List.not_mem_nil, or_false] at this ⊢
  omega
theorem KS_T {i : Nat} {s s' : ps_S} (T : TKf i s s') : KS i s s' := ⟨kqt kq_refl T.1 (by decide) (by decide), fun p _ b => T.2 p b, fun j _ => ⟨by rw [kq_a T.1 1157 (by decide)], by rw [kq_a T.1 1158 (by decide)], by rw [kq_a T.1 1159 (by decide)], by rw [kq_b T.1 1160 (by decide)]⟩⟩
theorem KS_8 {i : Nat} {v : Int32} {s0 s : ps_S} (K : KS i s0 s) : KS i s0 (ps_ua s 1158 i v) := ⟨kqa K.1 (by decide), fun p a b => (K.2.1 p a b), fun j hj => by
  obtain ⟨b1, b2, b3, b4⟩ := K.2.2 j hj
  exact ⟨b1, by rw [ps_a_ua, if_neg (fun z => hj z.2)]; exact b2, b3, b4⟩⟩
theorem KS_9 {i : Nat} {v : Int32} {s0 s : ps_S} (K : KS i s0 s) : KS i s0 (ps_ua s 1159 i v) := ⟨kqa K.1 (by decide), fun p a b => (K.2.1 p a b), fun j hj => by
  obtain ⟨b1, b2, b3, b4⟩ := K.2.2 j hj
  exact ⟨b1, b2, by rw [ps_a_ua, if_neg (fun z => hj z.2)]; exact b3, b4⟩⟩
theorem KS_7 {i : Nat} {v : Int32} {s0 s : ps_S} (K : KS i s0 s) : KS i s0 (ps_ua s 1157 i v) := ⟨kqa K.1 (by decide), fun p a b => (K.2.1 p a b), fun j hj => by
  obtain ⟨b1, b2, b3, b4⟩ := K.2.2 j hj
  exact ⟨by rw [ps_a_ua, if_neg (fun z => hj z.2)]; exact b1, b2, b3, b4⟩⟩
theorem KS_0 {i : Nat} {v : Int64} {s0 s : ps_S} (K : KS i s0 s) : KS i s0 (ps_ub s 1160 i v) := ⟨kqb K.1 (by decide), fun p a b => (K.2.1 p a b), fun j hj => by
  obtain ⟨b1, b2, b3, b4⟩ := K.2.2 j hj
  exact ⟨b1, b2, b3, by rw [ps_b_ub, if_neg (fun z => hj z.2)]; exact b4⟩⟩
theorem KS_i {i q : Nat} {v : Int32} {s0 s : ps_S} (K : KS i s0 s) (hq : [34, 50, 51].contains q = true) : KS i s0 (ps_ui s 1131 q v) := ⟨kqi K.1 hq, K.2.1, K.2.2⟩
theorem mv_W_KS {i to : Nat} {l : List Nat} {s0 s : ps_S} (W : mv_W s0 to l) (K : KS i s0 s) (h1 : to + 41 ≤ 41 * i ∨ 41 * i + 41 ≤ to) (h2 : to + 41 ≤ 1640 + 492 * i ∨ 1640 + 492 * i + 492 ≤ to) : mv_W s to l := mv_W_V W (fun q a b => K.2.1 q (by omega) (by omega))
theorem mSh_KS {i : Nat} {s0 s : ps_S} {Θ : List tq_H} (H : mSh s0 Θ) (hi : i < 40) (K : KS i s0 s) : mSh s Θ := by
  obtain ⟨y1, y2, y3⟩ := H
  refine ⟨by rw [kq_i K.1 54 (by decide)]; exact y1, y2, fun k q hk => ?_⟩
  obtain ⟨e1, e2, e3⟩ := y3 k q hk
  exact ⟨mv_W_KS e1 K (by omega) (by omega), by rw [kq_a K.1 1161 (by decide)]; exact e2, by rw [kq_a K.1 1162 (by decide)]; exact e3⟩
theorem mpR_KS {s0 s : ps_S} {i k : Nat} {R : tq_R} (H : mpR s0 k R) (hk : k < i) (hi : i < 40) (K : KS i s0 s) : mpR s k R := by
  obtain ⟨e1, e2, e3, e4, e5, e6, e7⟩ := H
  obtain ⟨b1, b2, b3, b4⟩ := K.2.2 k (by omega)
  refine ⟨mv_W_KS e1 K (by omega) (by omega), by rw [b1]; exact e2, e3, fun n y hy => mv_W_KS (e4 n y hy) K ?_ ?_, by rw [b2]; exact e5, by rw [b3]; exact e6, by rw [b4]; exact e7⟩
  · omega
  · have := (List.getElem?_eq_some_iff.mp hy).1
    omega
theorem mpD_KS {s0 s : ps_S} {i : Nat} {D : List tq_R} (H : mpD s0 D) (hD : D.length ≤ i) (hi : i < 40) (K : KS i s0 s) : mpD s D := ⟨H.1, fun k R hk => mpR_KS (H.2 k R hk) (by have := (List.getElem?_eq_some_iff.mp hk).1; omega) hi K⟩
theorem rkT_KS {s0 s : ps_S} {i j : Nat} {st : tp_P} (H : rkT s0 j st) (hi : i < 40) (K : KS i s0 s) : rkT s j st := by
  obtain ⟨t1, t2, t3, t4, t5, t6, t7, t8⟩ := H
  have e : ∀ r, [1134, 1149, 1150, 1151, 1157, 1158, 1159, 1160].contains r = false → ps_a s r = ps_a s0 r := fun r hr => kq_a K.1 r hr
  exact ⟨by rw [e 1152 (by decide)]; exact t1, by rw [e 1153 (by decide)]; exact t2, by rw [e 1154 (by decide)]; exact t3, by rw [e 1155 (by decide)]; exact t4, by rw [e 1153 (by decide)]; exact t5, by rw [e 1156 (by decide)]; exact t6, fun z => mv_W_KS (t7 z) K (by omega) (by omega), fun z => mv_W_KS (t8 z) K (by omega) (by omega)⟩
theorem mv_H_KS {s0 s : ps_S} {b i : Nat} {h : tx_H} (hb : b < 2) (H : mv_H s0 b h) (hi : i < 40) (K : KS i s0 s) : mv_H s b h := by
  refine mv_H_V hb H (fun r hr => kq_a K.1 r ?_) (fun r hr => kq_b K.1 r ?_) (fun q a b => K.2.1 q (by omega) (by omega))
  · revert r
    decide
  · revert r
    decide
theorem mpX_KS {s0 s : ps_S} {b : Nat} {h : tx_H} {Θ : List tq_H} {D : List tq_R} {st : tp_P} (X : mpX s0 b h Θ D st) (hi : D.length < 40) (K : KS D.length s0 s) : mpX s b h Θ D st := by
  obtain ⟨⟨x1, x2, x3⟩, y, d, t⟩ := X
  exact ⟨⟨x1, by rw [kq_i K.1 21 (by decide)]; exact x2, mv_H_KS x1 x3 hi K⟩, mSh_KS y hi K, mpD_KS d (Nat.le_refl _) hi K, rkT_KS t hi K⟩
theorem fm_251 {n i j : Nat} {x1 x2 : Int32} {s : ps_S} {R : ps_S → Prop} (h1 : x1.toInt = i) (h2 : x2.toInt = j) (k : ∀ s', (KS i s s' ∧ ps_a s' 1158 i = ps_a s 1158 i ||| ps_a s 1158 j ∧ ps_a s' 1159 i = ps_a s 1159 i ||| ps_a s 1159 j ∧ ps_b s' 1160 i = ps_b s 1160 i ||| ps_b s 1160 j ∧ kq [1158, 1159, 1160] [] s s') → R s') : pl_Cl n 251 [.ref 1131, .int x1, .int x2] s (ps_rV R) := by
  cases n with
  | zero => exact pl_At_0
  | succ n =>
  show pl_At (n + 1) 251 0 [(0, .ref 1131), (1, .int x1), (2, .int x2)] [] s (ps_rV R)
  refine pl_251_0 ?_
  rw [xtn h1, xtn h2]
  intro _ _ _ _ _ _ _ _ _
  refine k _ ⟨KS_0 (KS_9 (KS_8 KS_refl)), ?_, ?_, ?_, kqb (kqa (kqa kq_refl (by decide)) (by decide)) (by decide)⟩
  · rw [ps_a_ub, ps_a_ua, if_neg (by omega), ps_a_ua, if_pos ⟨rfl, rfl⟩]
  · rw [ps_a_ub, ps_a_ua, if_pos ⟨rfl, rfl⟩, ps_a_ua, if_neg (by omega), ps_a_ua, if_neg (by omega)]
  · rw [ps_b_ub, if_pos ⟨rfl, rfl⟩]
    rfl
theorem tq_mk_le {h : tx_H} {Θ : List tq_H} {D : List tq_R} {st : tp_P} (hr : tp_ok st.1.1) : (tq_mk h Θ D st).1 ≤ 4 := by
  obtain ⟨⟨r, n1, n2, n3⟩, ⟨ax, x⟩, t, f⟩ := st
  rcases tp_ok_c hr with rfl | rfl | rfl | rfl | rfl | rfl | rfl | rfl | rfl | rfl | rfl | rfl | rfl | rfl | rfl | rfl | rfl | rfl | rfl

  · exact Nat.zero_le 4
  · exact Nat.zero_le 4
  · exact Nat.zero_le 4
  · exact Nat.zero_le 4
  · exact Nat.zero_le 4
  · rw [tq_mk_14]
    split
    · exact of_decide_eq_true rfl
    · exact of_decide_eq_true rfl
  · rw [tq_mk_15]
    split
    · exact of_decide_eq_true rfl
    · exact of_decide_eq_true rfl
  · exact Nat.zero_le 4
  · exact Nat.zero_le 4
  · rw [tq_mk_18]
    split
    · exact of_decide_eq_true rfl
    · exact of_decide_eq_true rfl
  · rw [tq_mk_19]
    split
    · exact of_decide_eq_true rfl
    · exact of_decide_eq_true rfl
  · exact Nat.zero_le 4
  · rw [tq_mk_21]
    split
    · exact of_decide_eq_true rfl
    · exact of_decide_eq_true rfl
  · rw [tq_mk_22]
    split
    · exact of_decide_eq_true rfl
    · exact of_decide_eq_true rfl
  · rw [tq_mk_23]
    split
    · exact of_decide_eq_true rfl
    · exact of_decide_eq_true rfl
  · rw [tq_mk_24]
    split
    · split
      · exact of_decide_eq_true rfl
      · exact of_decide_eq_true rfl
    · exact of_decide_eq_true rfl
  · rw [tq_mk_25]
    split
    · split
      · exact of_decide_eq_true rfl
      · exact of_decide_eq_true rfl
    · exact of_decide_eq_true rfl
  · rw [tq_mk_26]
    split
    · exact of_decide_eq_true rfl
    · exact of_decide_eq_true rfl
  · rw [tq_mk_27]
    split
    · exact of_decide_eq_true rfl
    · exact of_decide_eq_true rfl
/-- what m premises left -/
def LEm (s0 s : ps_S) (D : List tq_R) (st : tp_P) (m : Nat) : Prop := KS D.length s0 s ∧ mpB s D.length ∧ ps_a s 1158 D.length = tq_zi D (fun q => q.2.2.1) (if st.1.1 = 10 then tq_b st.2.1.1 else 0) st m ∧ ps_a s 1159 D.length = tq_zi D (fun q => q.2.2.2.1) (if st.1.1 = 12 then tq_b st.1.2.1 else 0) st m ∧ ps_b s 1160 D.length = tq_zj D (fun q => q.2.2.2.2) ((1 : Int64) <<< (Int32.toInt64 (nI D.length) &&& 63)) st m
section TSM
variable {b : Nat} {h : tx_H} {Θ : List tq_H} {D : List tq_R} {st : tp_P} {x1 : Int32} {s1 : ps_S} {R : ps_S → Prop}
theorem fm_252_178 {n0 : Nat} (h1 : x1.toInt = D.length) (hi : D.length < 40) (X : mpX s1 b h Θ D st) (B : mpB s1 D.length) (hD : tq_GD h.1 D) (hT : tq_GT h.1 Θ) (hwt : WFt h) (hG : tp_G h.1 h.2.length st) (hpr : tq_pr Θ D st) (kk : ∀ s', TKm s1 s' h Θ D st → pl_At n0 252 232 [(0, .ref 1131), (1, .int x1)] [] s' (ps_rV R)) : ∀ {n : Nat}, n ≤ n0 + 1 → pl_At n 252 178 [(0, .ref 1131), (1, .int x1)] [] s1 (ps_rV R) := fun {n} hn => by
  cases n with
  | zero => exact pl_At_0
  | succ n =>
  obtain ⟨⟨r, n1, n2, n3⟩, ⟨ax, x⟩, t, f⟩ := st
  refine pl_252_178 ?_
  rw [xtn h1]
  intro _
  rcases tp_ok_c hG.1 with rfl | rfl | rfl | rfl | rfl | rfl | rfl | rfl | rfl | rfl | rfl | rfl | rfl | rfl | rfl | rfl | rfl | rfl | rfl
  · have er : (ps_a s1 1152 D.length).toInt = (15 : Int) := X.2.2.2.1.trans rfl
    refine ⟨fun _ => ?_, fun z => absurd (show (ps_a s1 1152 D.length).toInt < (8 : Int) from xlt z) (by omega)⟩
    intro _
    refine ⟨fun z => absurd (show (ps_a s1 1152 D.length).toInt < (11 : Int) from xlt z) (by omega), fun _ => ?_⟩
    intro _
    exact ⟨fun _ => fm_257_r6 h1 hi X B hD hG hpr (fun s2 T => (kk s2 T).le (by omega)), fun z => absurd (show (16 : Int) < (ps_a s1 1152 D.length).toInt from xlt z) (by omega)⟩
  · have er : (ps_a s1 1152 D.length).toInt = (1 : Int) := X.2.2.2.1.trans rfl
    exact ⟨fun z => absurd (show (8 : Int) ≤ (ps_a s1 1152 D.length).toInt from xle z) (by omega), fun _ => fm_253_r10 hwt h1 hi X B hD hG hpr (fun s2 T => (kk s2 T).le (by omega))⟩
  · have er : (ps_a s1 1152 D.length).toInt = (0 : Int) := X.2.2.2.1.trans rfl
    exact ⟨fun z => absurd (show (8 : Int) ≤ (ps_a s1 1152 D.length).toInt from xle z) (by omega), fun _ => fm_253_r11 h1 hi X B hD hG hpr (fun s2 T => (kk s2 T).le (by omega))⟩
  · have er : (ps_a s1 1152 D.length).toInt = (2 : Int) := X.2.2.2.1.trans rfl
    exact ⟨fun z => absurd (show (8 : Int) ≤ (ps_a s1 1152 D.length).toInt from xle z) (by omega), fun _ => fm_253_r12 hT h1 hi X B hD hG hpr (fun s2 T => (kk s2 T).le (by omega))⟩
  · have er : (ps_a s1 1152 D.length).toInt = (3 : Int) := X.2.2.2.1.trans rfl
    exact ⟨fun z => absurd (show (8 : Int) ≤ (ps_a s1 1152 D.length).toInt from xle z) (by omega), fun _ => fm_253_r13 h1 hi X B hD hG hpr (fun s2 T => (kk s2 T).le (by omega))⟩
  · have er : (ps_a s1 1152 D.length).toInt = (4 : Int) := X.2.2.2.1.trans rfl
    exact ⟨fun z => absurd (show (8 : Int) ≤ (ps_a s1 1152 D.length).toInt from xle z) (by omega), fun _ => fm_253_r14 h1 hi X B hD hG hpr (fun s2 T => (kk s2 T).le (by omega))⟩
  · have er : (ps_a s1 1152 D.length).toInt = (5 : Int) := X.2.2.2.1.trans rfl
    exact ⟨fun z => absurd (show (8 : Int) ≤ (ps_a s1 1152 D.length).toInt from xle z) (by omega), fun _ => fm_253_r15 h1 hi X B hD hG hpr (fun s2 T => (kk s2 T).le (by omega))⟩
  · have er : (ps_a s1 1152 D.length).toInt = (6 : Int) := X.2.2.2.1.trans rfl
    exact ⟨fun z => absurd (show (8 : Int) ≤ (ps_a s1 1152 D.length).toInt from xle z) (by omega), fun _ => fm_253_r16 h1 hi X B hD hG hpr (fun s2 T => (kk s2 T).le (by omega))⟩
  · have er : (ps_a s1 1152 D.length).toInt = (7 : Int) := X.2.2.2.1.trans rfl
    exact ⟨fun z => absurd (show (8 : Int) ≤ (ps_a s1 1152 D.length).toInt from xle z) (by omega), fun _ => fm_253_r17 h1 hi X B hD hG hpr (fun s2 T => (kk s2 T).le (by omega))⟩
  · have er : (ps_a s1 1152 D.length).toInt = (8 : Int) := X.2.2.2.1.trans rfl
    refine ⟨fun _ => ?_, fun z => absurd (show (ps_a s1 1152 D.length).toInt < (8 : Int) from xlt z) (by omega)⟩
    intro _
    refine ⟨fun _ => ?_, fun z => absurd (show (11 : Int) ≤ (ps_a s1 1152 D.length).toInt from xle z) (by omega)⟩
    cases n with
    | zero => exact pl_At_0
    | succ n =>
    exact pl_252_219 (fm_255_r18 h1 hi X B hD hG hpr (fun s2 T => (kk s2 T).le (by omega)))
  · have er : (ps_a s1 1152 D.length).toInt = (9 : Int) := X.2.2.2.1.trans rfl
    refine ⟨fun _ => ?_, fun z => absurd (show (ps_a s1 1152 D.length).toInt < (8 : Int) from xlt z) (by omega)⟩
    intro _
    refine ⟨fun _ => ?_, fun z => absurd (show (11 : Int) ≤ (ps_a s1 1152 D.length).toInt from xle z) (by omega)⟩
    cases n with
    | zero => exact pl_At_0
    | succ n =>
    exact pl_252_219 (fm_255_r19 h1 hi X B hD hG hpr (fun s2 T => (kk s2 T).le (by omega)))
  · have er : (ps_a s1 1152 D.length).toInt = (10 : Int) := X.2.2.2.1.trans rfl
    refine ⟨fun _ => ?_, fun z => absurd (show (ps_a s1 1152 D.length).toInt < (8 : Int) from xlt z) (by omega)⟩
    intro _
    refine ⟨fun _ => ?_, fun z => absurd (show (11 : Int) ≤ (ps_a s1 1152 D.length).toInt from xle z) (by omega)⟩
    cases n with
    | zero => exact pl_At_0
    | succ n =>
    exact pl_252_219 (fm_255_r20 h1 hi X B hD hG hpr (fun s2 T => (kk s2 T).le (by omega)))
  · have er : (ps_a s1 1152 D.length).toInt = (11 : Int) := X.2.2.2.1.trans rfl
    refine ⟨fun _ => ?_, fun z => absurd (show (ps_a s1 1152 D.length).toInt < (8 : Int) from xlt z) (by omega)⟩
    intro _
    refine ⟨fun z => absurd (show (ps_a s1 1152 D.length).toInt < (11 : Int) from xlt z) (by omega), fun _ => ?_⟩
    intro _
    exact ⟨fun _ => fm_257_r21 h1 hi X B hD hG hpr (fun s2 T => (kk s2 T).le (by omega)), fun z => absurd (show (16 : Int) < (ps_a s1 1152 D.length).toInt from xlt z) (by omega)⟩
  · have er : (ps_a s1 1152 D.length).toInt = (12 : Int) := X.2.2.2.1.trans rfl
    refine ⟨fun _ => ?_, fun z => absurd (show (ps_a s1 1152 D.length).toInt < (8 : Int) from xlt z) (by omega)⟩
    intro _
    refine ⟨fun z => absurd (show (ps_a s1 1152 D.length).toInt < (11 : Int) from xlt z) (by omega), fun _ => ?_⟩
    intro _
    exact ⟨fun _ => fm_257_r22 h1 hi X B hD hG hpr (fun s2 T => (kk s2 T).le (by omega)), fun z => absurd (show (16 : Int) < (ps_a s1 1152 D.length).toInt from xlt z) (by omega)⟩
  · have er : (ps_a s1 1152 D.length).toInt = (13 : Int) := X.2.2.2.1.trans rfl
    refine ⟨fun _ => ?_, fun z => absurd (show (ps_a s1 1152 D.length).toInt < (8 : Int) from xlt z) (by omega)⟩
    intro _
    refine ⟨fun z => absurd (show (ps_a s1 1152 D.length).toInt < (11 : Int) from xlt z) (by omega), fun _ => ?_⟩
    intro _
    exact ⟨fun _ => fm_257_r23 h1 hi X B hD hG hpr (fun s2 T => (kk s2 T).le (by omega)), fun z => absurd (show (16 : Int) < (ps_a s1 1152 D.length).toInt from xlt z) (by omega)⟩
  · have er : (ps_a s1 1152 D.length).toInt = (14 : Int) := X.2.2.2.1.trans rfl
    refine ⟨fun _ => ?_, fun z => absurd (show (ps_a s1 1152 D.length).toInt < (8 : Int) from xlt z) (by omega)⟩
    intro _
    refine ⟨fun z => absurd (show (ps_a s1 1152 D.length).toInt < (11 : Int) from xlt z) (by omega), fun _ => ?_⟩
    intro _
    exact ⟨fun _ => fm_257_r24 h1 hi X B hD hG hpr (fun s2 T => (kk s2 T).le (by omega)), fun z => absurd (show (16 : Int) < (ps_a s1 1152 D.length).toInt from xlt z) (by omega)⟩
  · have er : (ps_a s1 1152 D.length).toInt = (16 : Int) := X.2.2.2.1.trans rfl
    refine ⟨fun _ => ?_, fun z => absurd (show (ps_a s1 1152 D.length).toInt < (8 : Int) from xlt z) (by omega)⟩
    intro _
    refine ⟨fun z => absurd (show (ps_a s1 1152 D.length).toInt < (11 : Int) from xlt z) (by omega), fun _ => ?_⟩
    intro _
    exact ⟨fun _ => fm_257_r25 h1 hi X B hD hG hpr (fun s2 T => (kk s2 T).le (by omega)), fun z => absurd (show (16 : Int) < (ps_a s1 1152 D.length).toInt from xlt z) (by omega)⟩
  · have er : (ps_a s1 1152 D.length).toInt = (17 : Int) := X.2.2.2.1.trans rfl
    refine ⟨fun _ => ?_, fun z => absurd (show (ps_a s1 1152 D.length).toInt < (8 : Int) from xlt z) (by omega)⟩
    intro _
    refine ⟨fun z => absurd (show (ps_a s1 1152 D.length).toInt < (11 : Int) from xlt z) (by omega), fun _ => ?_⟩
    intro _
    refine ⟨fun z => absurd (show (ps_a s1 1152 D.length).toInt ≤ (16 : Int) from xle z) (by omega), fun _ => ?_⟩
    cases n with
    | zero => exact pl_At_0
    | succ n =>
    exact pl_252_219 (fm_255_r26 h1 hi X B hD hG hpr (fun s2 T => (kk s2 T).le (by omega)))
  · have er : (ps_a s1 1152 D.length).toInt = (18 : Int) := X.2.2.2.1.trans rfl
    refine ⟨fun _ => ?_, fun z => absurd (show (ps_a s1 1152 D.length).toInt < (8 : Int) from xlt z) (by omega)⟩
    intro _
    refine ⟨fun z => absurd (show (ps_a s1 1152 D.length).toInt < (11 : Int) from xlt z) (by omega), fun _ => ?_⟩
    intro _
    refine ⟨fun z => absurd (show (ps_a s1 1152 D.length).toInt ≤ (16 : Int) from xle z) (by omega), fun _ => ?_⟩
    cases n with
    | zero => exact pl_At_0
    | succ n =>
    exact pl_252_219 (fm_255_r27 h1 hi X B hD hG hpr (fun s2 T => (kk s2 T).le (by omega)))
theorem fm_228x {n : Nat} {g : tx_g} {L : List Nat} {s : ps_S} {R : Int32 → ps_S → Prop} (hb : b < 2) (h21 : (ps_i s 1131 21).toInt = b) (H : mv_E s b g) (M : mk_M s L) (hw : L = [] ∨ ws (sg g) L [true]) (hl : L.length < 100000) (k1 : ∀ s', (L = [] ∨ (L.length ≤ 40 ∧ dp (arh g) L)) ∧ KL s s' → R 1 s') (k0 : ∀ s', (¬ (L.length ≤ 40 ∧ dp (arh g) L)) ∧ KL s s' → R 0 s') : pl_Cl n 228 [.ref 1131] s (ps_rI R) := by
  rcases hw with hw | hw
  · subst hw
    have e := M.1
    have c0 : (0 : Int32).toInt = 0 := Int32.toInt_zero
    have c40 : (40 : Int32).toInt = 40 := by decide
    have e0 : ([] : List Nat).length = 0 := rfl
    cases n with
    | zero => exact pl_At_0
    | succ n =>
    show pl_At (n + 1) 228 0 [(0, .ref 1131)] [] s (ps_rI R)
    refine pl_228_0 ⟨fun _ => ?_, fun z => ?_⟩
    · cases n with
      | zero => exact pl_At_0
      | succ n =>
      refine pl_228_17 ⟨fun _ => k1 s ⟨Or.inl rfl, kq_refl⟩, fun z => ?_⟩
      have z := xlt z
      omega
    · have z := xlt z
      omega
  · exact fm_228 hb h21 H M hw hl (fun s' q => k1 s' ⟨Or.inr q.1, q.2⟩) k0
theorem mpR_new {s s' s2 s3 : ps_S} {L : List Nat} {A : List (List Nat)} (hi : D.length < 40) (hA12 : A.length ≤ 12) (hf : (tq_res h Θ D st).2.1.length ≤ 12) (e1 : L = (tq_mk h Θ D st).2.1) (e2 : A = tq_as D st (tq_mk h Θ D st).2.2) (P : PAm s' D.length A 40) (l1 : ps_a s 1158 D.length = tq_zi D (fun q => q.2.2.1) (if st.1.1 = 10 then tq_b st.2.1.1 else 0) st (tq_np st.1.1)) (l2 : ps_a s 1159 D.length = tq_zi D (fun q => q.2.2.2.1) (if st.1.1 = 12 then tq_b st.1.2.1 else 0) st (tq_np st.1.1)) (l3 : ps_b s 1160 D.length = tq_zj D (fun q => q.2.2.2.2) ((1 : Int64) <<< (Int32.toInt64 (nI D.length) &&& 63)) st (tq_np st.1.1)) (T : TKf D.length s s') (KL2 : KL s' s2) (K3 : kq [1134] [] s2 s3) (P3 : mv_po (41 * D.length) s2 s3) (W3 : mv_W s3 (41 * D.length) L) : mpR (ps_ua s3 1157 D.length (ps_i s3 1131 51)) D.length (tq_res h Θ D st) := by
  obtain ⟨⟨c, p1, p2, p3, p4⟩, p5, p6⟩ := id P
  have Kq : kq [1157] [] s3 (ps_ua s3 1157 D.length (ps_i s3 1131 51)) := kqa kq_refl (by decide)
  have j1 : ps_i s3 1131 51 = ps_i s' 1131 51 := by rw [kq_i K3 51 (by decide), kq_i KL2 51 (by decide)]
  have t8 : ps_a s3 1158 D.length = ps_a s 1158 D.length := by rw [kq_a K3 1158 (by decide), kq_a KL2 1158 (by decide), kq_a T.1 1158 (by decide)]
  have t9 : ps_a s3 1159 D.length = ps_a s 1159 D.length := by rw [kq_a K3 1159 (by decide), kq_a KL2 1159 (by decide), kq_a T.1 1159 (by decide)]
  have t0 : ps_b s3 1160 D.length = ps_b s 1160 D.length := by rw [kq_b K3 1160 (by decide), kq_b KL2 1160 (by decide), kq_b T.1 1160 (by decide)]
  refine ⟨?_, ?_, hf, fun m y hy => ?_, ?_, ?_, ?_⟩
  · refine mv_W_kq ?_ Kq (by decide)
    show mv_W s3 _ (tq_mk h Θ D st).2.1
    rw [← e1]
    exact W3
  · rw [ps_a_ua, if_pos ⟨rfl, rfl⟩, j1]
    show _ = ((tq_as D st (tq_mk h Θ D st).2.2).length : Int)
    rw [← e2, p1]
    have := p3 hA12
    omega
  · have hy : (tq_as D st (tq_mk h Θ D st).2.2)[m]? = some y := hy
    rw [← e2] at hy
    have hml := (List.getElem?_eq_some_iff.mp hy).1
    refine mv_W_kq ?_ Kq (by decide)
    exact mv_W_po (mv_W_kq (p6 m y (by omega) hy) KL2 (by decide)) P3 (by omega)
  · rw [ps_a_ua, if_neg (by omega), t8, l1, ← tq_zi_is]
    rfl
  · rw [ps_a_ua, if_neg (by omega), t9, l2, ← tq_zi_is]
    rfl
  · rw [ps_b_ua, t0, l3, ← tq_zj_is]
    rfl
theorem LEm_step {s0 s s' : ps_S} {m : Nat} (hi : D.length < 40) (X : mpX s0 b h Θ D st) (E : LEm s0 s D st m) (hpr : tq_pr Θ D st) (hm : m < tq_np st.1.1) (q : (KS D.length s s' ∧ ps_a s' 1158 D.length = ps_a s 1158 D.length ||| ps_a s 1158 (pr_k st m) ∧ ps_a s' 1159 D.length = ps_a s 1159 D.length ||| ps_a s 1159 (pr_k st m) ∧ ps_b s' 1160 D.length = ps_b s 1160 D.length ||| ps_b s 1160 (pr_k st m) ∧ kq [1158, 1159, 1160] [] s s')) : LEm s0 s' D st (m + 1) := by
  obtain ⟨K, ⟨b1, b2, b3⟩, l1, l2, l3⟩ := E
  obtain ⟨q1, q2, q3, q4, q5⟩ := q
  obtain ⟨hlt, -⟩ := pr_lt_k hpr hm
  obtain ⟨Rm, e1, -, -, e4⟩ := tq_at hlt
  obtain ⟨-, -, -, -, r5, r6, r7⟩ := (mpX_KS X hi K).2.2.1.2 _ Rm e1
  refine ⟨KS_tr K q1, ⟨by rw [kq_i q5 50 (by decide)]; exact b1, mk_M_kq b2 q5 (by decide) (by decide), ?_⟩, ?_, ?_, ?_⟩
  · obtain ⟨⟨c, p1, p2⟩, p3, p4⟩ := b3
    exact ⟨⟨c, by rw [kq_i q5 51 (by decide)]; exact p1, p2⟩, p3, fun m y _ hy => by cases hy⟩
  · rw [q2, l1, r5]
    show _ = tq_zi D _ _ st m ||| (D.getD (pr_k st m) ([], [], 0, 0, 0)).2.2.1
    rw [e4]
  · rw [q3, l2, r6]
    show _ = tq_zi D _ _ st m ||| (D.getD (pr_k st m) ([], [], 0, 0, 0)).2.2.2.1
    rw [e4]
  · rw [q4, l3, r7]
    show _ = tq_zj D _ _ st m ||| (D.getD (pr_k st m) ([], [], 0, 0, 0)).2.2.2.2
    rw [e4]
theorem fm_252_232 {s0 s : ps_S} (h1 : x1.toInt = D.length) (hi : D.length < 40) (X : mpX s0 b h Θ D st) (hD : tq_GD h.1 D) (hT : tq_GT h.1 Θ) (hwt : WFt h) (hG : tp_G h.1 h.2.length st) (k : ∀ s', ((ps_i s' 1131 50).toInt = (tq_cs h Θ D st : Nat) ∧ (tq_cs h Θ D st = 0 → mpD s' (D ++ [tq_res h Θ D st])) ∧ KS D.length s0 s') → R s') (n' : Nat) (E : LEm s0 s D st (tq_np st.1.1)) (hpr : tq_pr Θ D st) (s' : ps_S) (Tk : TKm s s' h Θ D st) : pl_At n' 252 232 [(0, .ref 1131), (1, .int x1)] [] s' (ps_rV R) := by
  have c0 : (0 : Int32).toInt = 0 := Int32.toInt_zero
  have c12 : (12 : Int32).toInt = 12 := by decide
  have hr := hG.1
  obtain ⟨K, -, l1, l2, l3⟩ := E
  obtain ⟨L, A, h50, M, hw, hl, P, h0, T⟩ := Tk
  have h4 := tq_mk_le (h := h) (Θ := Θ) (D := D) hr
  have Ks : KS D.length s0 s' := KS_tr K (KS_T T)
  have X' := mpX_KS X hi Ks
  obtain ⟨⟨c, p1, p2, p3, p4⟩, p5, p6⟩ := id P
  -- not kept
  have no : ∀ {n2 : Nat} {s2 : ps_S}, (ps_i s2 1131 50).toInt = (tq_cs h Θ D st : Nat) → tq_cs h Θ D st ≠ 0 → KS D.length s0 s2 → pl_At n2 252 253 [(0, .ref 1131), (1, .int x1)] [] s2 (ps_rV R) := fun {n2 s2} hc hn K2 => by
    cases n2 with
    | zero => exact pl_At_0
    | succ n2 =>
    refine pl_252_253 ⟨fun z => ?_, fun _ => k s2 ⟨hc, fun e => absurd e hn, K2⟩⟩
    have z := xle z
    omega
  have no2 : ∀ {n2 : Nat} {s2 : ps_S}, (ps_i s2 1131 50).toInt = ((tq_mk h Θ D st).1 : Nat) → ((tq_mk h Θ D st).1 = 0 → ¬ tq_fit h (tq_res h Θ D st)) → KS D.length s0 s2 → pl_At n2 252 248 [(0, .ref 1131), (1, .int x1)] [] s2 (ps_rV R) := fun {n2 s2} hc hn K2 => by
    cases n2 with
    | zero => exact pl_At_0
    | succ n2 =>
    refine pl_252_248 (fm_241 (c := 5) hc rfl (fun s4 h54 K4 => ?_))
    have K4' := KS_tr K2 (KS_q (i := D.length) K4 (by decide) (by decide))
    unfold bcs at h54
    by_cases e : (tq_mk h Θ D st).1 = 0
    · rw [if_pos e] at h54
      have hc5 := tq_cs_5 hpr e (hn e)
      exact no (by rw [hc5]; exact h54) (by rw [hc5]; decide) K4'
    · rw [if_neg e] at h54
      have hcm := tq_cs_m hpr e
      exact no (by rw [hcm, h54]; omega) (by rw [hcm]; exact e) K4'
  cases n' with
  | zero => exact pl_At_0
  | succ n' =>
  refine pl_252_232 ⟨fun z => no2 h50 (fun e => ?_) Ks, fun z => ?_⟩
  · have z := xlt z
    obtain ⟨e1, e2⟩ := h0 e
    intro ft
    have ft2 : A.length ≤ 12 := by rw [e2]; exact ft.2.1
    have := p3 ft2
    omega
  · have z := xle z
    have hA12 : A.length ≤ 12 := by
      rcases Nat.lt_or_ge 12 A.length with u | u
      · have := p4 u
        omega
      · exact u
    refine fm_228x X'.1.1 X'.1.2.1 X'.1.2.2.1 M hw (by omega) (fun s2 q => ⟨fun _ => ?_, fun w => absurd w (by decide)⟩) (fun s2 q => ⟨fun w => absurd rfl w, fun _ => ?_⟩)
    · obtain ⟨q, KL2⟩ := q
      have K2 : KS D.length s0 s2 := KS_tr Ks (KS_q KL2 (by decide) (by decide))
      have h52 : (ps_i s2 1131 50).toInt = ((tq_mk h Θ D st).1 : Nat) := by rw [kq_i KL2 50 (by decide)]; exact h50
      by_cases e : (tq_mk h Θ D st).1 = 0
      · obtain ⟨e1, e2⟩ := h0 e
        have hwk := tq_mk_ws hwt hG hpr hD hT e
        have hq : L.length ≤ 40 ∧ dp (arh h.1) L := by
          rcases q with q | q
          · rw [← e1, q] at hwk
            obtain ⟨cc, tt, e9⟩ := ws_ne hwk
            cases e9
          · exact q
        have ft : tq_fit h (tq_res h Θ D st) := ⟨by show (tq_mk h Θ D st).2.1.length ≤ 40; rw [← e1]; exact hq.1, by show (tq_as D st _).length ≤ 12; rw [← e2]; exact hA12, by show dp _ (tq_mk h Θ D st).2.1; rw [← e1]; exact hq.2⟩
        have hc0 := tq_cs_0 hpr e ft
        cases n' with
        | zero => exact pl_At_0
        | succ n' =>
        refine pl_252_253 ⟨fun _ => ?_, fun w => ?_⟩
        · have M2 : mk_M s2 L := mk_M_kq M KL2 (by decide) (by decide)
          refine fm_242 h1 (by omega) (fun v1 q1 => fm_229 M2 hq.1 q1 (by omega) (fun s3 W3 K3 P3 => ?_))
          have K23 : KS D.length s0 s3 := KS_tr K2 ⟨kqt kq_refl K3 (by decide) (by decide), fun p a _ => P3 p (by omega), fun j _ => ⟨by rw [kq_a K3 1157 (by decide)], by rw [kq_a K3 1158 (by decide)], by rw [kq_a K3 1159 (by decide)], by rw [kq_b K3 1160 (by decide)]⟩⟩
          intro _
          rw [xtn h1]
          have K4 : KS D.length s0 (ps_ua s3 1157 D.length (ps_i s3 1131 51)) := KS_7 K23
          have Kq : kq [1157] [] s3 (ps_ua s3 1157 D.length (ps_i s3 1131 51)) := kqa kq_refl (by decide)
          refine k _ ⟨?_, fun _ => ⟨?_, fun kk Rk hk => ?_⟩, K4⟩
          · show (ps_i s3 1131 50).toInt = _
            rw [kq_i K3 50 (by decide), hc0, h52, e]
          · rw [List.length_append, List.length_singleton]
            omega
          · rcases Nat.lt_or_ge kk D.length with u | u
            · rw [List.getElem?_append_left u] at hk
              exact mpR_KS (X.2.2.1.2 kk Rk hk) u hi K4
            · have hkl := (List.getElem?_eq_some_iff.mp hk).1
              rw [List.length_append, List.length_singleton] at hkl
              have ek : kk = D.length := by omega
              subst ek
              rw [List.getElem?_append_right (Nat.le_refl _), Nat.sub_self] at hk
              have eR : tq_res h Θ D st = Rk := Option.some.inj hk
              rw [← eR]
              exact mpR_new hi hA12 ft.2.1 e1 e2 P l1 l2 l3 T KL2 K3 P3 W3
        · have w := xlt w
          rw [e] at h52
          omega
      · have hcm := tq_cs_m hpr e
        exact no (by rw [hcm]; exact h52) (by rw [hcm]; exact e) K2
    · obtain ⟨q, KL2⟩ := q
      refine no2 (by rw [kq_i KL2 50 (by decide)]; exact h50) (fun e ft => q ?_) (KS_tr Ks (KS_q KL2 (by decide) (by decide)))
      obtain ⟨e1, -⟩ := h0 e
      rw [e1]
      exact ⟨ft.1, ft.2.2⟩

/-- a step taken -/
theorem fm_252 {n : Nat} {s0 : ps_S} (h1 : x1.toInt = D.length) (hi : D.length < 40) (X : mpX s0 b h Θ D st) (hD : tq_GD h.1 D) (hT : tq_GT h.1 Θ) (hwt : WFt h) (hG : tp_G h.1 h.2.length st) (k : ∀ s', ((ps_i s' 1131 50).toInt = (tq_cs h Θ D st : Nat) ∧ (tq_cs h Θ D st = 0 → mpD s' (D ++ [tq_res h Θ D st])) ∧ KS D.length s0 s') → R s') : pl_Cl n 252 [.ref 1131, .int x1] s0 (ps_rV R) := by
  cases n with
  | zero => exact pl_At_0
  | succ n =>
  show pl_At (n + 1) 252 0 [(0, .ref 1131), (1, .int x1)] [] s0 (ps_rV R)
  have c0 : (0 : Int32).toInt = 0 := Int32.toInt_zero
  have c1 : (1 : Int32).toInt = 1 := by decide
  have c2 : (2 : Int32).toInt = 2 := by decide
  have c12 : (12 : Int32).toInt = 12 := by decide
  have h3 := tq_np_le (r := st.1.1)
  have kd1 : (kd st.1.1 : Int) = 1 ↔ st.1.1 = 10 := by
    have hr := hG.1
    unfold kd
    unfold tp_ok at hr
    split
    · omega
    · split
      · omega
      · split
        · omega
        · split <;> omega
  have kd2 : (kd st.1.1 : Int) = 2 ↔ st.1.1 = 12 := by
    have hr := hG.1
    unfold kd
    unfold tp_ok at hr
    split
    · omega
    · split
      · omega
      · split
        · omega
        · split <;> omega
  have hr := hG.1
  have pr_k0 : pr_k st 0 = st.1.2.1 := rfl
  have at178 : ∀ {n' : Nat} {s : ps_S}, LEm s0 s D st (tq_np st.1.1) → tq_pr Θ D st → pl_At n' 252 178 [(0, .ref 1131), (1, .int x1)] [] s (ps_rV R) := fun {n' s} E hpr => fm_252_178 (n0 := n') h1 hi (mpX_KS X hi E.1) E.2.1 hD hT hwt hG hpr (fm_252_232 h1 hi X hD hT hwt hG k n' E hpr) (Nat.le_succ _)
  have nnp : ∀ {m : Nat}, m < tq_np st.1.1 → m < tp_nn st.1.1 := fun {m} hm => by
    unfold tq_np at hm
    split at hm
    · omega
    · exact hm
  have at162 : ∀ {n' : Nat} {s : ps_S} {x2 : Int32}, x2.toInt = tq_np st.1.1 → LEm s0 s D st (min 2 (tq_np st.1.1)) → tq_pr Θ D st → pl_At n' 252 162 [(0, .ref 1131), (1, .int x1), (2, .int x2)] [] s (ps_rV R) := fun {n' s x2} h2 E hpr => by
    cases n' with
    | zero => exact pl_At_0
    | succ n' =>
    refine pl_252_162 ?_
    rw [xtn h1]
    refine ⟨fun z => at178 ?_ hpr, fun z => ?_⟩
    · have z := xle z
      rw [show min 2 (tq_np st.1.1) = tq_np st.1.1 from by omega] at E
      exact E
    · have z := xlt z
      intro _
      have h3' : (ps_a s 1155 D.length).toInt = st.1.2.2.2 := (mpX_KS X hi E.1).2.2.2.2.2.2.1 (nnp (m := 2) (by omega))
      rw [show min 2 (tq_np st.1.1) = 2 from by omega] at E
      refine fm_251 h1 h3' (fun s' q => at178 ?_ hpr)
      rw [show tq_np st.1.1 = 2 + 1 from by omega]
      exact LEm_step hi X E hpr (by omega) q
  have at146 : ∀ {n' : Nat} {s : ps_S} {x2 : Int32}, x2.toInt = tq_np st.1.1 → LEm s0 s D st (min 1 (tq_np st.1.1)) → tq_pr Θ D st → pl_At n' 252 146 [(0, .ref 1131), (1, .int x1), (2, .int x2)] [] s (ps_rV R) := fun {n' s x2} h2 E hpr => by
    cases n' with
    | zero => exact pl_At_0
    | succ n' =>
    refine pl_252_146 ?_
    rw [xtn h1]
    refine ⟨fun z => at162 h2 ?_ hpr, fun z => ?_⟩
    · have z := xle z
      rw [show min 2 (tq_np st.1.1) = min 1 (tq_np st.1.1) from by omega]
      exact E
    · have z := xlt z
      intro _
      have h3' : (ps_a s 1154 D.length).toInt = st.1.2.2.1 := (mpX_KS X hi E.1).2.2.2.2.2.1 (nnp (m := 1) (by omega))
      rw [show min 1 (tq_np st.1.1) = 1 from by omega] at E
      refine fm_251 h1 h3' (fun s' q => at162 h2 ?_ hpr)
      rw [show min 2 (tq_np st.1.1) = 1 + 1 from by omega]
      exact LEm_step hi X E hpr (by omega) q
  have at84 : ∀ {n' : Nat} {s : ps_S}, KS D.length s0 s → mpB s D.length → (tq_pr Θ D st → ps_a s 1158 D.length = (if st.1.1 = 10 then tq_b st.2.1.1 else 0) ∧ ps_a s 1159 D.length = (if st.1.1 = 12 then tq_b st.1.2.1 else 0)) → pl_At n' 252 84 [(0, .ref 1131), (1, .int x1)] [] s (ps_rV R) := fun {n' s} K B hv => by
    cases n' with
    | zero => exact pl_At_0
    | succ n' =>
    refine pl_252_84 ?_
    rw [xtn h1]
    intro _
    have K2 : KS D.length s0 (ps_ub s 1160 D.length ((1 : Int64) <<< (Int32.toInt64 x1 &&& 63))) := KS_0 K
    have X2 := mpX_KS X hi K2
    obtain ⟨b1, b2, b3⟩ := B
    have B2 : mpB (ps_ub s 1160 D.length ((1 : Int64) <<< (Int32.toInt64 x1 &&& 63))) D.length := ⟨b1, b2, ⟨b3.1, b3.2.1, fun m y _ hy => by cases hy⟩⟩
    refine fm_250 h1 hi X2 hr (fun hp => ⟨fun _ => ?_, fun w => absurd w (by decide)⟩) (fun hp => ⟨fun w => absurd rfl w, fun _ => ?_⟩)
    · obtain ⟨v1, v2⟩ := hv hp
      have E0 : LEm s0 (ps_ub s 1160 D.length ((1 : Int64) <<< (Int32.toInt64 x1 &&& 63))) D st 0 := ⟨K2, B2, v1, v2, by rw [ps_b_ub, if_pos ⟨rfl, rfl⟩, xnI h1]; rfl⟩
      have ek := X2.2.2.2.1
      intro _
      refine ⟨fun z => ?_, fun z => ⟨fun _ => at146 ?_ ?_ hp, fun w => absurd w (by decide)⟩⟩
      · have z : (ps_a _ 1152 D.length).toInt ≠ (2 : Int) := xne z
        have h12 : st.1.1 ≠ 12 := fun w => z (ek.trans (kd2.mpr w))
        have enp : tq_np st.1.1 = tp_nn st.1.1 := by
          unfold tq_np
          rw [if_neg h12]
        intro _
        refine fm_234 ek hr (fun v q => ⟨fun y => at146 (by rw [q, enp]) ?_ hp, fun y => ?_⟩)
        · have y := xle y
          rw [show min 1 (tq_np st.1.1) = 0 from by omega]
          exact E0
        · have y := xlt y
          intro _
          have e1 : (ps_a (ps_ub s 1160 D.length ((1 : Int64) <<< (Int32.toInt64 x1 &&& 63))) 1153 D.length).toInt = st.1.2.1 := X2.2.2.2.2.1 (by omega)
          refine fm_251 h1 e1 (fun s' q' => at146 (by rw [q, enp]) ?_ hp)
          rw [show min 1 (tq_np st.1.1) = 0 + 1 from by omega]
          exact LEm_step hi X E0 hp (by omega) q'
      · have z : (ps_a _ 1152 D.length).toInt = (2 : Int) := xeq z
        have h12 := kd2.mp (ek.symm.trans z)
        unfold tq_np
        rw [if_pos h12]
        rfl
      · have z : (ps_a _ 1152 D.length).toInt = (2 : Int) := xeq z
        have h12 := kd2.mp (ek.symm.trans z)
        have e0 : tq_np st.1.1 = 0 := by
          unfold tq_np
          rw [if_pos h12]
        rw [e0]
        exact E0
    · have hc := tq_cs_1 (h := h) hp
      refine fm_241 (z := 0) (c := 1) b1 rfl (fun s4 h54 K4 => k s4 ⟨by rw [hc]; exact h54, fun e => absurd e (by rw [hc]; decide), KS_tr K2 (KS_q K4 (by decide) (by decide))⟩)
  have ek := X.2.2.2.1
  have hbeg : ∀ a b : Int32, KS D.length s0 (ps_ua (ps_ua (ps_ui (ps_ui (ps_ui s0 1131 50 0) 1131 51 0) 1131 34 0) 1158 D.length a) 1159 D.length b) ∧ mpB (ps_ua (ps_ua (ps_ui (ps_ui (ps_ui s0 1131 50 0) 1131 51 0) 1131 34 0) 1158 D.length a) 1159 D.length b) D.length := fun a b => by
    refine ⟨KS_9 (KS_8 (KS_i (KS_i (KS_i KS_refl (by decide)) (by decide)) (by decide))), ?_, ?_, ⟨⟨0, ?_, Nat.le_refl _, fun _ => rfl, fun w => absurd w (by decide)⟩, by decide, fun m y _ hy => by cases hy⟩⟩
    · show (ps_i (ps_ui (ps_ui (ps_ui s0 1131 50 0) 1131 51 0) 1131 34 0) 1131 50).toInt = 0
      rw [ps_i_ui, if_neg (by omega), ps_i_ui, if_neg (by omega), ps_i_ui, if_pos ⟨rfl, rfl⟩]
      rfl
    · refine ⟨?_, fun m y _ hy => by cases hy⟩
      show (ps_i (ps_ui (ps_ui (ps_ui s0 1131 50 0) 1131 51 0) 1131 34 0) 1131 34).toInt = _
      rw [ps_i_ui, if_pos ⟨rfl, rfl⟩]
      rfl
    · show (ps_i (ps_ui (ps_ui (ps_ui s0 1131 50 0) 1131 51 0) 1131 34 0) 1131 51).toInt = _
      rw [ps_i_ui, if_neg (by omega), ps_i_ui, if_pos ⟨rfl, rfl⟩]
      rfl
  have hval : ∀ a b : Int32, ps_a (ps_ua (ps_ua (ps_ui (ps_ui (ps_ui s0 1131 50 0) 1131 51 0) 1131 34 0) 1158 D.length a) 1159 D.length b) 1158 D.length = a ∧ ps_a (ps_ua (ps_ua (ps_ui (ps_ui (ps_ui s0 1131 50 0) 1131 51 0) 1131 34 0) 1158 D.length a) 1159 D.length b) 1159 D.length = b := fun a b => by
    refine ⟨?_, ?_⟩
    · rw [ps_a_ua, if_neg (by omega), ps_a_ua, if_pos ⟨rfl, rfl⟩]
    · rw [ps_a_ua, if_pos ⟨rfl, rfl⟩]
  have two : ∀ {s : ps_S} {a : Int32}, ps_a (ps_ua s 1158 D.length a) 1152 D.length = ps_a s 1152 D.length := fun {s a} => by rw [ps_a_ua, if_neg (by omega)]
  have two3 : ∀ {s : ps_S} {a : Int32}, ps_a (ps_ua s 1158 D.length a) 1153 D.length = ps_a s 1153 D.length := fun {s a} => by rw [ps_a_ua, if_neg (by omega)]
  have y1 := X.2.1.1
  refine pl_252_0 ?_
  rw [xtn h1]
  intro _
  refine ⟨fun z => ?_, fun z => ?_⟩
  · have z : (ps_a s0 1152 D.length).toInt ≠ (1 : Int) := xne z
    have h10 : st.1.1 ≠ 10 := fun w => z (ek.trans (kd1.mpr w))
    intro _
    intro _
    refine ⟨fun z2 => ?_, fun z2 => ?_⟩
    · rw [two] at z2
      have z2 : (ps_a s0 1152 D.length).toInt ≠ (2 : Int) := xne z2
      have h12 : st.1.1 ≠ 12 := fun w => z2 (ek.trans (kd2.mpr w))
      intro _
      exact at84 (hbeg 0 0).1 (hbeg 0 0).2 (fun _ => by rw [if_neg h10, if_neg h12]; exact hval 0 0)
    · rw [two] at z2
      have z2 : (ps_a s0 1152 D.length).toInt = (2 : Int) := xeq z2
      have h12 := kd2.mp (ek.symm.trans z2)
      have e1 : (ps_a s0 1153 D.length).toInt = st.1.2.1 := X.2.2.2.2.1 (by rw [h12]; decide)
      have epr : tq_pr Θ D st ↔ st.1.2.1 < Θ.length := by
        unfold tq_pr
        rw [if_pos h12]
      intro _
      refine ⟨fun w => ?_, fun w => ?_⟩
      · rw [two3] at w
        have w : (ps_i s0 1131 54).toInt ≤ (ps_a s0 1153 D.length).toInt := xle w
        intro _
        refine at84 (hbeg 0 0).1 (hbeg 0 0).2 (fun hp => ?_)
        have := epr.mp hp
        omega
      · intro _
        intro _
        rw [two3]
        refine at84 (hbeg _ _).1 (hbeg _ _).2 (fun _ => ?_)
        rw [if_neg h10, if_pos h12]
        refine ⟨(hval _ _).1, (hval _ _).2.trans ?_⟩
        show (1 : Int32) <<< ((ps_a s0 1153 D.length) &&& 31) = _
        rw [xnI e1]
        rfl
  · have z : (ps_a s0 1152 D.length).toInt = (1 : Int) := xeq z
    have h10 := kd1.mp (ek.symm.trans z)
    have ea : (ps_a s0 1153 D.length).toInt = st.2.1.1 := X.2.2.2.2.2.2.2.1 h10
    intro _
    intro _
    intro _
    refine ⟨fun z2 => ?_, fun z2 => ?_⟩
    · intro _
      refine at84 (hbeg _ _).1 (hbeg _ _).2 (fun _ => ?_)
      rw [if_pos h10, if_neg (by omega)]
      refine ⟨(hval _ _).1.trans ?_, (hval _ _).2⟩
      show (1 : Int32) <<< ((ps_a s0 1153 D.length) &&& 31) = _
      rw [xnI ea]
      rfl
    · rw [two] at z2
      have z2 : (ps_a s0 1152 D.length).toInt = (2 : Int) := xeq z2
      omega
end TSM
end
section
set_option maxRecDepth 100000
/-! the reference: the steps of a proof, one after the other -/
-- ProofBenchModel.prove()I
theorem pl_240_0 {n : Nat} {s : ps_S} {Q : Option Value → ps_S → Prop} (h :
  pl_Cl n 198 [.ref 1131] s (ps_rV (fun s1 =>
    pl_At n 240 9 [(0, .ref 1131)] [] (ps_ui s1 1131 42 0) Q))) : pl_At (n + 1) 240 0 [(0, .ref 1131)] [] s Q :=
  pl_wp_at (stops := [(9, [0]), (30, [0]), (54, [0])]) (f := 7) h rfl

theorem pl_240_9 {n : Nat} {s : ps_S} {Q : Option Value → ps_S → Prop} (h :
  pl_Cl n 192 [.ref 1131] s (ps_rI (fun v1 s1 =>
    (v1 = 0 →
      pl_At n 240 30 [(0, .ref 1131)] [] s1 Q) ∧
    (v1 ≠ 0 →
      ((ps_i s1 1131 9) = 0 →
        pl_At n 240 30 [(0, .ref 1131)] [] s1 Q) ∧
      ((ps_i s1 1131 9) ≠ 0 →
        pl_Cl n 238 [.ref 1131] s1 (ps_rV (fun s2 =>
          pl_At n 240 9 [(0, .ref 1131)] [] s2 Q))))))) : pl_At (n + 1) 240 9 [(0, .ref 1131)] [] s Q :=
  pl_wp_at (stops := [(9, [0]), (30, [0]), (54, [0])]) (f := 11) h rfl

theorem pl_240_30 {n : Nat} {s : ps_S} {Q : Option Value → ps_S → Prop} (h :
  pl_Cl n 192 [.ref 1131] s (ps_rI (fun v1 s1 =>
    (v1 ≠ 0 →
      pl_At n 240 54 [(0, .ref 1131)] [] (ps_ui (ps_ui (ps_ui s1 1131 47 0) 1131 48 (-1)) 1131 49 (-1)) Q) ∧
    (v1 = 0 →
      Q (some (.int (-1))) s1)))) : pl_At (n + 1) 240 30 [(0, .ref 1131)] [] s Q :=
  pl_wp_at (stops := [(9, [0]), (30, [0]), (54, [0])]) (f := 16) h rfl

theorem pl_240_54 {n : Nat} {s : ps_S} {Q : Option Value → ps_S → Prop} (h :
  ((ps_i s 1131 42) ≤ (ps_i s 1131 47) →
    Q (some (.int (ps_i s 1131 47))) s) ∧
  ((ps_i s 1131 47) < (ps_i s 1131 42) →
    (0 ≤ (ps_i s 1131 48) →
      Q (some (.int (ps_i s 1131 47))) s) ∧
    ((ps_i s 1131 48) < 0 →
      pl_Cl n 252 [.ref 1131, .int (ps_i s 1131 47)] s (ps_rV (fun s1 =>
        ((ps_i s1 1131 50) ≠ 0 →
          pl_At n 240 54 [(0, .ref 1131)] [] (ps_ui (ps_ui s1 1131 48 (ps_i s1 1131 47)) 1131 49 (ps_i (ps_ui s1 1131 48 (ps_i s1 1131 47)) 1131 50)) Q) ∧
        ((ps_i s1 1131 50) = 0 →
          pl_At n 240 54 [(0, .ref 1131)] [] (ps_ui s1 1131 47 ((ps_i s1 1131 47) + 1)) Q)))))) : pl_At (n + 1) 240 54 [(0, .ref 1131)] [] s Q :=
  pl_wp_at (stops := [(9, [0]), (30, [0]), (54, [0])]) (f := 39) h rfl

/-- a proof as it stands -/
def mpP (s : ps_S) (D : List tq_R) (c : Nat) : Prop := mpD s D ∧ (ps_i s 1131 47).toInt = D.length ∧ (c = 0 → ps_i s 1131 48 = -1 ∧ ps_i s 1131 49 = -1) ∧ (c ≠ 0 → (ps_i s 1131 48).toInt = D.length ∧ (ps_i s 1131 49).toInt = c)
/-- what the steps may change -/
def KF (s0 s : ps_S) : Prop := kq [1134, 1149, 1150, 1151, 1157, 1158, 1159, 1160] [34, 47, 48, 49, 50, 51] s0 s ∧ ∀ q, 21320 ≤ q → ps_a s 1134 q = ps_a s0 1134 q
theorem KF_S {i : Nat} {s0 s s' : ps_S} (K : KF s0 s) (q : KS i s s') (hi : i < 40) : KF s0 s' := ⟨kqt K.1 q.1 (by decide) (by decide), fun p hp => (q.2.1 p (by omega) (by omega)).trans (K.2 p hp)⟩
theorem KF_i {q : Nat} {v : Int32} {s0 s : ps_S} (K : KF s0 s) (hq : [34, 47, 48, 49, 50, 51].contains q = true) : KF s0 (ps_ui s 1131 q v) := ⟨kqi K.1 hq, K.2⟩
theorem mpD_q {F : List Nat} {s s' : ps_S} {D : List tq_R} (H : mpD s D) (K : kq [] F s s') : mpD s' D := ⟨H.1, fun k R hk => by
  obtain ⟨e1, e2, e3, e4, e5, e6, e7⟩ := H.2 k R hk
  exact ⟨mv_W_kq e1 K (by decide), by rw [kq_a K 1157 (by decide)]; exact e2, e3, fun n y hy => mv_W_kq (e4 n y hy) K (by decide), by rw [kq_a K 1158 (by decide)]; exact e5, by rw [kq_a K 1159 (by decide)]; exact e6, by rw [kq_b K 1160 (by decide)]; exact e7⟩⟩
theorem rkT_q {F : List Nat} {s s' : ps_S} {j : Nat} {st : tp_P} (H : rkT s j st) (K : kq [] F s s') : rkT s' j st := by
  obtain ⟨t1, t2, t3, t4, t5, t6, t7, t8⟩ := H
  have e : ∀ r, ps_a s' r = ps_a s r := fun r => kq_a K r rfl
  exact ⟨by rw [e]; exact t1, by rw [e]; exact t2, by rw [e]; exact t3, by rw [e]; exact t4, by rw [e]; exact t5, by rw [e]; exact t6, fun z => mv_W_kq (t7 z) K (by decide), fun z => mv_W_kq (t8 z) K (by decide)⟩
theorem mSh_q {F : List Nat} {s s' : ps_S} {Θ : List tq_H} (H : mSh s Θ) (K : kq [] F s s') (hF : F.contains 54 = false) : mSh s' Θ := by
  obtain ⟨y1, y2, y3⟩ := H
  refine ⟨by rw [kq_i K 54 hF]; exact y1, y2, fun k q hk => ?_⟩
  obtain ⟨e1, e2, e3⟩ := y3 k q hk
  exact ⟨mv_W_kq e1 K (by decide), by rw [kq_a K 1161 (by decide)]; exact e2, by rw [kq_a K 1162 (by decide)]; exact e3⟩
section T240
variable {b : Nat} {h : tx_H} {Θ : List tq_H} {L : List tp_P} {s0 : ps_S} {R : Int32 → ps_S → Prop}
theorem fm_240_54 (hb : b < 2) (hT : tq_GT h.1 Θ) (hwt : WFt h) (hL : L.length ≤ 40) (hG : ∀ (k : Nat) (st : tp_P), L[k]? = some st → tp_G h.1 h.2.length st) (k : ∀ s' D c, tq_run h Θ L [] = (D, c) → tq_GD h.1 D → mpP s' D c → KF s0 s' → R (ps_i s' 1131 47) s') : ∀ (n : Nat) {s : ps_S} {D : List tq_R}, D.length ≤ L.length → tq_run h Θ L [] = tq_run h Θ (L.drop D.length) D → tq_GD h.1 D → (ps_i s 1131 21).toInt = b → mv_H s b h → mSh s Θ → mpD s D → (∀ (k : Nat) (st : tp_P), D.length ≤ k → L[k]? = some st → rkT s k st) → (ps_i s 1131 42).toInt = L.length → (ps_i s 1131 47).toInt = D.length → ps_i s 1131 48 = -1 → ps_i s 1131 49 = -1 → KF s0 s → pl_At n 240 54 [(0, .ref 1131)] [] s (ps_rI R)
  | 0, _, _, _, _, _, _, _, _, _, _, _, _, _, _, _ => pl_At_0
  | n + 1, s, D, hDL, hrun, hD, h21, H, hS, cD, cW, e42, e47, e48, e49, F => by
    have c0 : (0 : Int32).toInt = 0 := Int32.toInt_zero
    have cm : (-1 : Int32).toInt = -1 := by decide
    refine pl_240_54 ⟨fun z => ?_, fun z => ⟨fun w => ?_, fun _ => ?_⟩⟩
    · have z := xle z
      have e : D.length = L.length := by omega
      rw [e, List.drop_length] at hrun
      exact k s D 0 hrun hD ⟨cD, e47, fun _ => ⟨e48, e49⟩, fun w => absurd rfl w⟩ F
    · have w := xle w
      rw [e48] at w
      omega
    · have z := xlt z
      have hlt : D.length < L.length := by omega
      obtain ⟨st, hst⟩ : ∃ st, L[D.length]? = some st := ⟨_, List.getElem?_eq_getElem hlt⟩
      have hi : D.length < 40 := by omega
      have w1 := cW D.length st (Nat.le_refl _) hst
      rw [drop_g hst] at hrun
      refine fm_252 e47 hi ⟨⟨hb, h21, H⟩, hS, cD, w1⟩ hD hT hwt (hG _ st hst) (fun s1 q => ?_)
      obtain ⟨q1, q2, K1⟩ := q
      have g47 : ps_i s1 1131 47 = ps_i s 1131 47 := kq_i K1.1 47 (by decide)
      have g42 : ps_i s1 1131 42 = ps_i s 1131 42 := kq_i K1.1 42 (by decide)
      have g48 : ps_i s1 1131 48 = -1 := (kq_i K1.1 48 (by decide)).trans e48
      have g49 : ps_i s1 1131 49 = -1 := (kq_i K1.1 49 (by decide)).trans e49
      have F1 : KF s0 s1 := KF_S F K1 hi
      refine ⟨fun y => ?_, fun y => ?_⟩
      · have y := xne y
        have hc : tq_cs h Θ D st ≠ 0 := fun e => y (by rw [q1, e, c0]; rfl)
        rw [tq_run_c hc] at hrun
        have Kq : kq [] [48, 49] s1 (ps_ui (ps_ui s1 1131 48 (ps_i s1 1131 47)) 1131 49 (ps_i (ps_ui s1 1131 48 (ps_i s1 1131 47)) 1131 50)) := kqi (kqi kq_refl (by decide)) (by decide)
        have k47 : ps_i (ps_ui (ps_ui s1 1131 48 (ps_i s1 1131 47)) 1131 49 (ps_i (ps_ui s1 1131 48 (ps_i s1 1131 47)) 1131 50)) 1131 47 = ps_i s 1131 47 := (kq_i Kq 47 (by decide)).trans g47
        have k42 : ps_i (ps_ui (ps_ui s1 1131 48 (ps_i s1 1131 47)) 1131 49 (ps_i (ps_ui s1 1131 48 (ps_i s1 1131 47)) 1131 50)) 1131 42 = ps_i s 1131 42 := (kq_i Kq 42 (by decide)).trans g42
        have k48 : ps_i (ps_ui (ps_ui s1 1131 48 (ps_i s1 1131 47)) 1131 49 (ps_i (ps_ui s1 1131 48 (ps_i s1 1131 47)) 1131 50)) 1131 48 = ps_i s 1131 47 := by rw [ps_i_ui, if_neg (by omega), ps_i_ui, if_pos ⟨rfl, rfl⟩, g47]
        have k49 : ps_i (ps_ui (ps_ui s1 1131 48 (ps_i s1 1131 47)) 1131 49 (ps_i (ps_ui s1 1131 48 (ps_i s1 1131 47)) 1131 50)) 1131 49 = ps_i s1 1131 50 := by rw [ps_i_ui, if_pos ⟨rfl, rfl⟩, ps_i_ui, if_neg (by omega)]
        have FF : KF s0 (ps_ui (ps_ui s1 1131 48 (ps_i s1 1131 47)) 1131 49 (ps_i (ps_ui s1 1131 48 (ps_i s1 1131 47)) 1131 50)) := KF_i (KF_i F1 (by decide)) (by decide)
        have D1 : mpD s1 D := mpD_KS cD (Nat.le_refl _) hi K1
        have D2 := mpD_q D1 Kq
        generalize ps_ui (ps_ui s1 1131 48 (ps_i s1 1131 47)) 1131 49 (ps_i (ps_ui s1 1131 48 (ps_i s1 1131 47)) 1131 50) = s2 at Kq k47 k42 k48 k49 FF D2 ⊢
        cases n with
        | zero => exact pl_At_0
        | succ n =>
        refine pl_240_54 ⟨fun z2 => ?_, fun _ => ⟨fun _ => ?_, fun w => ?_⟩⟩
        · have z2 := xle z2
          rw [k47, k42] at z2
          omega
        · exact k s2 D _ hrun hD ⟨D2, by rw [k47]; exact e47, fun e => absurd e hc, fun _ => ⟨by rw [k48]; exact e47, by rw [k49]; exact q1⟩⟩ FF
        · have w := xlt w
          rw [k48] at w
          omega
      · have y := xeq y
        have hc : tq_cs h Θ D st = 0 := by
          rw [q1, c0] at y
          omega
        obtain ⟨c1, c2, c3⟩ := tq_cs_is hc
        rw [tq_run_0 hc] at hrun
        have hlen : (D ++ [tq_res h Θ D st]).length = D.length + 1 := List.length_append
        have Kq : kq [] [47] s1 (ps_ui s1 1131 47 (ps_i s1 1131 47 + 1)) := kqi kq_refl (by decide)
        refine fm_240_54 hb hT hwt hL hG k n (D := D ++ [tq_res h Θ D st]) (by omega) (by rw [hlen]; exact hrun) (tq_G_step hD hT hwt (hG _ st hst) c1 c2 c3) ?_ (mv_H_kq (mv_H_KS hb H hi K1) Kq (by decide)) (mSh_q (mSh_KS hS hi K1) Kq (by decide)) (mpD_q (q2 hc) Kq) (fun kk st2 hk hs2 => rkT_q (rkT_KS (cW kk st2 (by omega) hs2) hi K1) Kq) ?_ ?_ ?_ ?_ (KF_i F1 (by decide))
        · rw [kq_i Kq 21 (by decide), kq_i K1.1 21 (by decide)]
          exact h21
        · rw [kq_i Kq 42 (by decide), g42]
          exact e42
        · rw [ps_i_ui, if_pos ⟨rfl, rfl⟩, g47, hlen]
          exact xj1 e47 (by omega)
        · rw [kq_i Kq 48 (by decide)]
          exact g48
        · rw [kq_i Kq 49 (by decide)]
          exact g49
end T240
end
section
set_option maxRecDepth 100000
/-! what a proof says: refused, step, line, needs, on both sides -/
-- ProofBench.refused(I)I
theorem pl_154_0 {n : Nat} {x1 : Int32} {s : ps_S} {Q : Option Value → ps_S → Prop} (h :
  pl_nk (ps_is (ps_r s 0 4) 2) (((ps_i s (ps_r s 0 4) 9) ≠ 0 →
    (x1 = 0 →
      pl_nk (ps_is (ps_r s 0 4) 2) (Q (some (.int (ps_i s (ps_r s 0 4) 8))) s)) ∧
    (x1 ≠ 0 →
      (x1 = 1 →
      pl_nk (ps_is (ps_r s 0 4) 2) (Q (some (.int (ps_i s (ps_r s 0 4) 9))) s)) ∧
    (x1 ≠ 1 →
      Q (some (.int (-1))) s))) ∧
  ((ps_i s (ps_r s 0 4) 9) = 0 →
    Q (some (.int (-1))) s))) : pl_At (n + 1) 154 0 [(0, .ref 0), (1, .int x1)] [] s Q :=
  pl_wp_at (stops := []) (f := 20) h rfl

-- ProofBench.step(II)I
theorem pl_155_0 {n : Nat} {x1 : Int32} {x2 : Int32} {s : ps_S} {Q : Option Value → ps_S → Prop} (h :
  pl_Cl n 32 [.ref (ps_r s 0 4), .int x1] s (ps_rI (fun v1 s1 =>
    (v1 ≠ 0 →
      pl_Cl n 33 [.ref (ps_r s1 0 4), .int x1] s1 (ps_rA (fun v2 s2 =>
        (x2 = 0 →
          pl_nk (ps_is v2 8) (pl_nk (ps_is (ps_c0 v2 6) 5) (Q (some (.int (ps_i s2 (ps_c0 v2 6) 1))) s2))) ∧
        (x2 ≠ 0 →
          (x2 = 1 →
          pl_nk (ps_is v2 8) (Q (some (.int (ps_i s2 v2 8))) s2)) ∧
        (x2 ≠ 1 →
          (x2 = 2 →
          pl_nk (ps_is v2 8) (Q (some (.int (ps_i s2 v2 10))) s2)) ∧
        (x2 ≠ 2 →
          (x2 = 3 →
          pl_nk (ps_is v2 8) (Q (some (.int (ps_i s2 v2 11))) s2)) ∧
        (x2 ≠ 3 →
          Q (some (.int (-1))) s2))))))) ∧
    (v1 = 0 →
      Q (some (.int (-1))) s1)))) : pl_At (n + 1) 155 0 [(0, .ref 0), (1, .int x1), (2, .int x2)] [] s Q :=
  pl_wp_at (stops := []) (f := 31) h rfl

-- ProofBench.line(II)I
theorem pl_156_0 {n : Nat} {x1 : Int32} {x2 : Int32} {s : ps_S} {Q : Option Value → ps_S → Prop} (h :
  pl_Cl n 32 [.ref (ps_r s 0 4), .int x1] s (ps_rI (fun v1 s1 =>
    (v1 = 0 →
      Q (some (.int (-1))) s1) ∧
    (v1 ≠ 0 →
      pl_Cl n 33 [.ref (ps_r s1 0 4), .int x1] s1 (ps_rA (fun v2 s2 =>
        pl_nk (ps_is v2 8) (pl_Cl n 92 [.ref (ps_c0 v2 6), .int x2] s2 (ps_rI (fun v3 s3 =>
          Q (some (.int v3)) s3))))))))) : pl_At (n + 1) 156 0 [(0, .ref 0), (1, .int x1), (2, .int x2)] [] s Q :=
  pl_wp_at (stops := []) (f := 18) h rfl

-- ProofBench.needs(I)J
theorem pl_165_0 {n : Nat} {x1 : Int32} {s : ps_S} {Q : Option Value → ps_S → Prop} (h :
  pl_Cl n 32 [.ref (ps_r s 0 4), .int x1] s (ps_rI (fun v1 s1 =>
    (v1 = 0 →
      Q (some (.long (-1 : Int64))) s1) ∧
    (v1 ≠ 0 →
      pl_Cl n 33 [.ref (ps_r s1 0 4), .int x1] s1 (ps_rA (fun v2 s2 =>
        pl_nk (ps_is v2 8) (Q (some (.long (ps_j s2 v2 12))) s2))))))) : pl_At (n + 1) 165 0 [(0, .ref 0), (1, .int x1)] [] s Q :=
  pl_wp_at (stops := []) (f := 16) h rfl

-- ProofBenchModel.refused(I)I
theorem pl_261_0 {n : Nat} {x1 : Int32} {s : ps_S} {Q : Option Value → ps_S → Prop} (h :
  (x1 ≠ 0 →
    (x1 ≠ 1 →
      Q (some (.int (-1))) s) ∧
    (x1 = 1 →
      Q (some (.int (ps_i s 1131 49))) s)) ∧
  (x1 = 0 →
    Q (some (.int (ps_i s 1131 48))) s)) : pl_At (n + 1) 261 0 [(0, .ref 1131), (1, .int x1)] [] s Q :=
  pl_wp_at (stops := []) (f := 17) h rfl

-- ProofBenchModel.isStep(I)Z
theorem pl_262_0 {n : Nat} {x1 : Int32} {s : ps_S} {Q : Option Value → ps_S → Prop} (h :
  pl_Cl n 200 [.int x1, .int 0, .int ((ps_i s 1131 47) - 1)] s (ps_rI (fun v1 s1 =>
    pl_nk (decide (v1 &&& 1 = v1)) (Q (some (.int v1)) s1)))) : pl_At (n + 1) 262 0 [(0, .ref 1131), (1, .int x1)] [] s Q :=
  pl_wp_at (stops := []) (f := 10) h rfl

-- ProofBenchModel.step(II)I
theorem pl_263_0 {n : Nat} {x1 : Int32} {x2 : Int32} {s : ps_S} {Q : Option Value → ps_S → Prop} (h :
  pl_Cl n 262 [.ref 1131, .int x1] s (ps_rI (fun v1 s1 =>
    (v1 ≠ 0 →
      (x2 = 0 →
        pl_Cl n 242 [.int x1] s1 (ps_rI (fun v2 s2 =>
          pl_Cl n 219 [.ref 1131, .int v2] s2 (ps_rI (fun v3 s3 =>
            Q (some (.int v3)) s3))))) ∧
      (x2 ≠ 0 →
        (x2 = 1 →
        (pm_in x1 41 = true →
          Q (some (.int (ps_a s1 1157 (Int32.toNatClampNeg x1)))) s1)) ∧
      (x2 ≠ 1 →
        (x2 = 2 →
        (pm_in x1 40 = true →
          Q (some (.int (ps_a s1 1158 (Int32.toNatClampNeg x1)))) s1)) ∧
      (x2 ≠ 2 →
        (x2 = 3 →
        (pm_in x1 40 = true →
          Q (some (.int (ps_a s1 1159 (Int32.toNatClampNeg x1)))) s1)) ∧
      (x2 ≠ 3 →
        Q (some (.int (-1))) s1))))) ∧
    (v1 = 0 →
      Q (some (.int (-1))) s1)))) : pl_At (n + 1) 263 0 [(0, .ref 1131), (1, .int x1), (2, .int x2)] [] s Q :=
  pl_wp_at (stops := []) (f := 32) h rfl

-- ProofBenchModel.line(II)I
theorem pl_265_0 {n : Nat} {x1 : Int32} {x2 : Int32} {s : ps_S} {Q : Option Value → ps_S → Prop} (h :
  pl_Cl n 262 [.ref 1131, .int x1] s (ps_rI (fun v1 s1 =>
    (v1 = 0 →
      Q (some (.int (-1))) s1) ∧
    (v1 ≠ 0 →
      pl_Cl n 242 [.int x1] s1 (ps_rI (fun v2 s2 =>
        pl_Cl n 264 [.ref 1131, .int v2, .int x2] s2 (ps_rI (fun v3 s3 =>
          Q (some (.int v3)) s3)))))))) : pl_At (n + 1) 265 0 [(0, .ref 1131), (1, .int x1), (2, .int x2)] [] s Q :=
  pl_wp_at (stops := []) (f := 15) h rfl

-- ProofBenchModel.needs(I)J
theorem pl_267_0 {n : Nat} {x1 : Int32} {s : ps_S} {Q : Option Value → ps_S → Prop} (h :
  pl_Cl n 262 [.ref 1131, .int x1] s (ps_rI (fun v1 s1 =>
    (v1 = 0 →
      Q (some (.long (-1 : Int64))) s1) ∧
    (v1 ≠ 0 →
      (pm_in x1 40 = true →
        Q (some (.long (ps_b s1 1160 (Int32.toNatClampNeg x1)))) s1))))) : pl_At (n + 1) 267 0 [(0, .ref 1131), (1, .int x1)] [] s Q :=
  pl_wp_at (stops := []) (f := 14) h rfl

/-- what refused, step, line, needs answer -/
def rf_is (D : List tq_R) (c : Nat) (x v : Int32) : Prop := v.toInt = if c = 0 then (-1 : Int) else if x.toInt = 0 then (D.length : Int) else if x.toInt = 1 then (c : Int) else -1
theorem rf_eq {D : List tq_R} {c : Nat} {x v v' : Int32} (h : rf_is D c x v) (h' : rf_is D c x v') : v = v' := Int32.toInt_inj.mp (h.trans h'.symm)
def sp_is (D : List tq_R) (x : Int32) (P : tq_R → Prop) (N : Prop) : Prop := (∀ (i : Nat) (Ri : tq_R), x.toInt = i → D[i]? = some Ri → P Ri) ∧ (¬ (0 ≤ x.toInt ∧ x.toInt < D.length) → N)
theorem sp_c {D : List tq_R} {x : Int32} {P P' : tq_R → Prop} {N N' Q : Prop} (h : sp_is D x P N) (h' : sp_is D x P' N') (hP : ∀ Ri, P Ri → P' Ri → Q) (hN : N → N' → Q) : Q := by
  by_cases y : 0 ≤ x.toInt ∧ x.toInt < D.length
  · obtain ⟨Ri, hk⟩ : ∃ Ri, D[x.toInt.toNat]? = some Ri := ⟨_, List.getElem?_eq_getElem (by omega)⟩
    exact hP Ri (h.1 _ Ri (by omega) hk) (h'.1 _ Ri (by omega) hk)
  · exact hN (h.2 y) (h'.2 y)
def st_P (x v : Int32) (Ri : tq_R) : Prop := (x.toInt = 0 → v.toInt = Ri.1.length) ∧ (x.toInt = 1 → v.toInt = Ri.2.1.length) ∧ (x.toInt = 2 → v = Ri.2.2.1) ∧ (x.toInt = 3 → v = Ri.2.2.2.1) ∧ (¬ (0 ≤ x.toInt ∧ x.toInt ≤ 3) → v = -1)
theorem st_eq {x v v' : Int32} {Ri : tq_R} (h : st_P x v Ri) (h' : st_P x v' Ri) : v = v' := by
  obtain ⟨a0, a1, a2, a3, a4⟩ := h
  obtain ⟨b0, b1, b2, b3, b4⟩ := h'
  by_cases y : 0 ≤ x.toInt ∧ x.toInt ≤ 3
  · rcases (show x.toInt = 0 ∨ x.toInt = 1 ∨ x.toInt = 2 ∨ x.toInt = 3 by omega) with e | e | e | e
    · exact Int32.toInt_inj.mp ((a0 e).trans (b0 e).symm)
    · exact Int32.toInt_inj.mp ((a1 e).trans (b1 e).symm)
    · exact (a2 e).trans (b2 e).symm
    · exact (a3 e).trans (b3 e).symm
  · exact (a4 y).trans (b4 y).symm
section SAC
variable {p c : Nat} {D : List tq_R} {x1 x2 : Int32} {s : ps_S}
theorem fs_154 {n : Nat} {R : Int32 → ps_S → Prop} (hr : ps_r s 0 4 = p) (P : cpP s p D c) (k : ∀ v, rf_is D c x1 v → R v s) : pl_Cl n 154 [.ref 0, .int x1] s (ps_rI R) := by
  cases n with
  | zero => exact pl_At_0
  | succ n =>
  show pl_At (n + 1) 154 0 [(0, .ref 0), (1, .int x1)] [] s (ps_rI R)
  obtain ⟨-, p8, p9⟩ := P
  have c0 : (0 : Int32).toInt = 0 := Int32.toInt_zero
  have c1 : (1 : Int32).toInt = 1 := by decide
  have cm : (-1 : Int32).toInt = -1 := by decide
  refine pl_154_0 (pl_nk_i (fun _ => ?_))
  rw [hr]
  unfold rf_is at k
  refine ⟨fun z => ⟨fun y => pl_nk_i (fun _ => k _ ?_), fun y => ⟨fun w => pl_nk_i (fun _ => k _ ?_), fun w => k _ ?_⟩⟩, fun z => k _ ?_⟩
  · have z := xne z
    have y := xeq y
    rw [if_neg (by omega), if_pos (by omega)]
    exact p8
  · have z := xne z
    have y := xne y
    have w := xeq w
    rw [if_neg (by omega), if_neg (by omega), if_pos (by omega)]
    exact p9
  · have z := xne z
    have y := xne y
    have w := xne w
    rw [if_neg (by omega), if_neg (by omega), if_neg (by omega)]
    exact cm
  · have z := xeq z
    rw [if_pos (by omega)]
    exact cm
theorem fs_155 {n : Nat} {R : Int32 → ps_S → Prop} (hp : p = 50 ∨ p = 460) (hr : ps_r s 0 4 = p) (P : cpP s p D c) (k : ∀ v, sp_is D x1 (st_P x2 v) (v = -1) → R v s) : pl_Cl n 155 [.ref 0, .int x1, .int x2] s (ps_rI R) := by
  cases n with
  | zero => exact pl_At_0
  | succ n =>
  show pl_At (n + 1) 155 0 [(0, .ref 0), (1, .int x1), (2, .int x2)] [] s (ps_rI R)
  obtain ⟨pD, p8, -⟩ := P
  have d40 := pD.1
  have c0 : (0 : Int32).toInt = 0 := Int32.toInt_zero
  have c1 : (1 : Int32).toInt = 1 := by decide
  have c2 : (2 : Int32).toInt = 2 := by decide
  have c3 : (3 : Int32).toInt = 3 := by decide
  refine pl_155_0 ?_
  rw [hr]
  refine fs_32 (fun y1 y2 => ⟨fun _ => ?_, fun w => absurd w (by decide)⟩) (fun y => ⟨fun w => absurd rfl w, fun _ => k _ ⟨fun i Ri hi hk => absurd (show 0 ≤ x1.toInt ∧ x1.toInt < (ps_i s p 8).toInt from by have := (List.getElem?_eq_some_iff.mp hk).1; omega) y, fun _ => rfl⟩⟩)
  rw [hr]
  obtain ⟨i, hi⟩ : ∃ i : Nat, x1.toInt = i := ⟨x1.toInt.toNat, by omega⟩
  have hiD : i < D.length := by omega
  obtain ⟨Ri, hk⟩ : ∃ Ri, D[i]? = some Ri := ⟨_, List.getElem?_eq_getElem hiD⟩
  obtain ⟨r1, r2, r3, r4, r5, r6, r7⟩ := pD.2 i Ri hk
  have mk : ∀ v, st_P x2 v Ri → sp_is D x1 (st_P x2 v) (v = -1) := fun v hv => ⟨fun j Rj hj hkj => by
    have e : j = i := by omega
    rw [e, hk] at hkj
    cases hkj
    exact hv, fun y => absurd (show 0 ≤ x1.toInt ∧ x1.toInt < D.length from by omega) y⟩
  have e6 := (stc_c hp (i := i) (by omega)).2.2.2.1
  refine fs_33 hp hi (by omega) ⟨fun z => pl_nk_i (fun _ => pl_nk_i (fun _ => k _ (mk _ ?_))), fun z => ⟨fun z1 => pl_nk_i (fun _ => k _ (mk _ ?_)), fun z1 => ⟨fun z2 => pl_nk_i (fun _ => k _ (mk _ ?_)), fun z2 => ⟨fun z3 => pl_nk_i (fun _ => k _ (mk _ ?_)), fun z3 => k _ (mk _ ?_)⟩⟩⟩⟩
  · have z := xeq z
    rw [e6]
    exact ⟨fun _ => r1.1, fun w => by omega, fun w => by omega, fun w => by omega, fun w => by omega⟩
  · have z1 := xeq z1
    exact ⟨fun w => by omega, fun _ => r2, fun w => by omega, fun w => by omega, fun w => by omega⟩
  · have z2 := xeq z2
    exact ⟨fun w => by omega, fun w => by omega, fun _ => r5, fun w => by omega, fun w => by omega⟩
  · have z3 := xeq z3
    exact ⟨fun w => by omega, fun w => by omega, fun w => by omega, fun _ => r6, fun w => by omega⟩
  · have z := xne z
    have z1 := xne z1
    have z2 := xne z2
    have z3 := xne z3
    exact ⟨fun w => by omega, fun w => by omega, fun w => by omega, fun w => by omega, fun _ => rfl⟩
theorem fs_156 {n : Nat} {R : Int32 → ps_S → Prop} (hp : p = 50 ∨ p = 460) (hr : ps_r s 0 4 = p) (P : cpP s p D c) (k : ∀ v, sp_is D x1 (fun Ri => pc_is Ri.1 x2 v) (v = -1) → R v s) : pl_Cl n 156 [.ref 0, .int x1, .int x2] s (ps_rI R) := by
  cases n with
  | zero => exact pl_At_0
  | succ n =>
  show pl_At (n + 1) 156 0 [(0, .ref 0), (1, .int x1), (2, .int x2)] [] s (ps_rI R)
  obtain ⟨pD, p8, -⟩ := P
  have d40 := pD.1
  refine pl_156_0 ?_
  rw [hr]
  refine fs_32 (fun y1 y2 => ⟨fun w => absurd w (by decide), fun _ => ?_⟩) (fun y => ⟨fun _ => k _ ⟨fun i Ri hi hk => absurd (show 0 ≤ x1.toInt ∧ x1.toInt < (ps_i s p 8).toInt from by have := (List.getElem?_eq_some_iff.mp hk).1; omega) y, fun _ => rfl⟩, fun w => absurd rfl w⟩)
  rw [hr]
  obtain ⟨i, hi⟩ : ∃ i : Nat, x1.toInt = i := ⟨x1.toInt.toNat, by omega⟩
  have hiD : i < D.length := by omega
  obtain ⟨Ri, hk⟩ : ∃ Ri, D[i]? = some Ri := ⟨_, List.getElem?_eq_getElem hiD⟩
  obtain ⟨r1, -⟩ := pD.2 i Ri hk
  have e6 := (stc_c hp (i := i) (by omega)).2.2.2.1
  have r5 := (stc_row hp (i := i) (by omega)).2.2
  obtain ⟨t1, t2, -⟩ := cv_row r5
  refine fs_33 hp hi (by omega) (pl_nk_i (fun _ => ?_))
  rw [e6]
  refine fs_92 r5 t1 (by rw [t1]; exact t2) r1 (fun v z => k v ⟨fun j Rj hj hkj => ?_, fun y => absurd (show 0 ≤ x1.toInt ∧ x1.toInt < D.length from by omega) y⟩)
  have e : j = i := by omega
  rw [e, hk] at hkj
  cases hkj
  refine ⟨fun c' hc hl => ?_, fun y => z.2 (by omega)⟩
  have := (List.getElem?_eq_some_iff.mp hl).1
  exact z.1 ⟨hc, by omega⟩ c' hl
end SAC
section SAM
variable {c : Nat} {D : List tq_R} {x1 x2 : Int32} {s : ps_S}
theorem fm_261 {n : Nat} {R : Int32 → ps_S → Prop} (P : mpP s D c) (k : ∀ v, rf_is D c x1 v → R v s) : pl_Cl n 261 [.ref 1131, .int x1] s (ps_rI R) := by
  cases n with
  | zero => exact pl_At_0
  | succ n =>
  show pl_At (n + 1) 261 0 [(0, .ref 1131), (1, .int x1)] [] s (ps_rI R)
  obtain ⟨-, -, p8, p9⟩ := P
  have c0 : (0 : Int32).toInt = 0 := Int32.toInt_zero
  have c1 : (1 : Int32).toInt = 1 := by decide
  have cm : (-1 : Int32).toInt = -1 := by decide
  unfold rf_is at k
  refine pl_261_0 ⟨fun z => ⟨fun y => k _ ?_, fun y => k _ ?_⟩, fun z => k _ ?_⟩
  · have z := xne z
    have y := xne y
    rw [if_neg (show ¬ x1.toInt = 0 from by omega), if_neg (show ¬ x1.toInt = 1 from by omega)]
    split <;> exact cm
  · have z := xne z
    have y := xeq y
    rw [if_neg (show ¬ x1.toInt = 0 from by omega), if_pos (show x1.toInt = 1 from by omega)]
    split
    · next e => rw [(p8 e).2]; exact cm
    · next e => exact (p9 e).2
  · have z := xeq z
    rw [if_pos (show x1.toInt = 0 from by omega)]
    split
    · next e => rw [(p8 e).1]; exact cm
    · next e => exact (p9 e).1
theorem fm_262 {n : Nat} {R : Int32 → ps_S → Prop} (P : mpP s D c) (k1 : 0 ≤ x1.toInt → x1.toInt < D.length → R 1 s) (k0 : ¬ (0 ≤ x1.toInt ∧ x1.toInt < D.length) → R 0 s) : pl_Cl n 262 [.ref 1131, .int x1] s (ps_rI R) := by
  cases n with
  | zero => exact pl_At_0
  | succ n =>
  show pl_At (n + 1) 262 0 [(0, .ref 1131), (1, .int x1)] [] s (ps_rI R)
  obtain ⟨pD, p7, -⟩ := P
  have d40 := pD.1
  have c0 : (0 : Int32).toInt = 0 := Int32.toInt_zero
  have c1 : (1 : Int32).toInt = 1 := by decide
  have e : ((ps_i s 1131 47) - 1).toInt = (D.length : Int) - 1 := by rw [xIs (by omega) (by omega), p7, c1]
  exact pl_262_0 (fm_200 (fun y1 y2 => pl_nk_i (fun _ => k1 (by omega) (by omega))) (fun y => pl_nk_i (fun _ => k0 (fun w => y (by omega)))))
theorem fm_263 {n : Nat} {R : Int32 → ps_S → Prop} (P : mpP s D c) (k : ∀ v, sp_is D x1 (st_P x2 v) (v = -1) → R v s) : pl_Cl n 263 [.ref 1131, .int x1, .int x2] s (ps_rI R) := by
  cases n with
  | zero => exact pl_At_0
  | succ n =>
  show pl_At (n + 1) 263 0 [(0, .ref 1131), (1, .int x1), (2, .int x2)] [] s (ps_rI R)
  have pD := P.1
  have d40 := pD.1
  have c0 : (0 : Int32).toInt = 0 := Int32.toInt_zero
  have c1 : (1 : Int32).toInt = 1 := by decide
  have c2 : (2 : Int32).toInt = 2 := by decide
  have c3 : (3 : Int32).toInt = 3 := by decide
  refine pl_263_0 (fm_262 P (fun y1 y2 => ⟨fun _ => ?_, fun w => absurd w (by decide)⟩) (fun y => ⟨fun w => absurd rfl w, fun _ => k _ ⟨fun i Ri hi hk => absurd (show 0 ≤ x1.toInt ∧ x1.toInt < D.length from by have := (List.getElem?_eq_some_iff.mp hk).1; omega) y, fun _ => rfl⟩⟩))
  obtain ⟨i, hi⟩ : ∃ i : Nat, x1.toInt = i := ⟨x1.toInt.toNat, by omega⟩
  have hiD : i < D.length := by omega
  obtain ⟨Ri, hk⟩ : ∃ Ri, D[i]? = some Ri := ⟨_, List.getElem?_eq_getElem hiD⟩
  obtain ⟨r1, r2, r3, r4, r5, r6, r7⟩ := pD.2 i Ri hk
  have mk : ∀ v, st_P x2 v Ri → sp_is D x1 (st_P x2 v) (v = -1) := fun v hv => ⟨fun j Rj hj hkj => by
    have e : j = i := by omega
    rw [e, hk] at hkj
    cases hkj
    exact hv, fun y => absurd (show 0 ≤ x1.toInt ∧ x1.toInt < D.length from by omega) y⟩
  rw [xtn hi]
  refine ⟨fun z => fm_242 hi (by omega) (fun v2 q2 => fm_219c q2 r1 (fun v3 q3 => k _ (mk _ ?_))), fun z => ⟨fun z1 => fun _ => k _ (mk _ ?_), fun z1 => ⟨fun z2 => fun _ => k _ (mk _ ?_), fun z2 => ⟨fun z3 => fun _ => k _ (mk _ ?_), fun z3 => k _ (mk _ ?_)⟩⟩⟩⟩
  · have z := xeq z
    exact ⟨fun _ => q3, fun w => by omega, fun w => by omega, fun w => by omega, fun w => by omega⟩
  · have z1 := xeq z1
    exact ⟨fun w => by omega, fun _ => r2, fun w => by omega, fun w => by omega, fun w => by omega⟩
  · have z2 := xeq z2
    exact ⟨fun w => by omega, fun w => by omega, fun _ => r5, fun w => by omega, fun w => by omega⟩
  · have z3 := xeq z3
    exact ⟨fun w => by omega, fun w => by omega, fun w => by omega, fun _ => r6, fun w => by omega⟩
  · have z := xne z
    have z1 := xne z1
    have z2 := xne z2
    have z3 := xne z3
    exact ⟨fun w => by omega, fun w => by omega, fun w => by omega, fun w => by omega, fun _ => rfl⟩
theorem fm_265 {n : Nat} {R : Int32 → ps_S → Prop} (P : mpP s D c) (k : ∀ v, sp_is D x1 (fun Ri => pc_is Ri.1 x2 v) (v = -1) → R v s) : pl_Cl n 265 [.ref 1131, .int x1, .int x2] s (ps_rI R) := by
  cases n with
  | zero => exact pl_At_0
  | succ n =>
  show pl_At (n + 1) 265 0 [(0, .ref 1131), (1, .int x1), (2, .int x2)] [] s (ps_rI R)
  have pD := P.1
  have d40 := pD.1
  refine pl_265_0 (fm_262 P (fun y1 y2 => ⟨fun w => absurd w (by decide), fun _ => ?_⟩) (fun y => ⟨fun _ => k _ ⟨fun i Ri hi hk => absurd (show 0 ≤ x1.toInt ∧ x1.toInt < D.length from by have := (List.getElem?_eq_some_iff.mp hk).1; omega) y, fun _ => rfl⟩, fun w => absurd rfl w⟩))
  obtain ⟨i, hi⟩ : ∃ i : Nat, x1.toInt = i := ⟨x1.toInt.toNat, by omega⟩
  have hiD : i < D.length := by omega
  obtain ⟨Ri, hk⟩ : ∃ Ri, D[i]? = some Ri := ⟨_, List.getElem?_eq_getElem hiD⟩
  obtain ⟨r1, -⟩ := pD.2 i Ri hk
  refine fm_242 hi (by omega) (fun v2 q2 => fm_264 q2 (by omega) r1 (fun v3 q3 => k _ ⟨fun j Rj hj hkj => ?_, fun y => absurd (show 0 ≤ x1.toInt ∧ x1.toInt < D.length from by omega) y⟩))
  have e : j = i := by omega
  rw [e, hk] at hkj
  cases hkj
  exact q3
end SAM
end
section
set_option maxRecDepth 100000
/-! what a proof says: assumed, needs, on both sides -/
-- ProofBench.assumed(III)I
theorem pl_157_0 {n : Nat} {x1 : Int32} {x2 : Int32} {x3 : Int32} {s : ps_S} {Q : Option Value → ps_S → Prop} (h :
  pl_Cl n 32 [.ref (ps_r s 0 4), .int x1] s (ps_rI (fun v1 s1 =>
    (v1 ≠ 0 →
      pl_Cl n 33 [.ref (ps_r s1 0 4), .int x1] s1 (ps_rA (fun v2 s2 =>
        pl_Cl n 122 [.ref v2, .int x2] s2 (ps_rI (fun v3 s3 =>
          (v3 ≠ (-1) →
            pl_Cl n 33 [.ref (ps_r s3 0 4), .int v3] s3 (ps_rA (fun v4 s4 =>
              pl_nk (ps_is v4 8) (pl_Cl n 92 [.ref (ps_c0 v4 6), .int x3] s4 (ps_rI (fun v5 s5 =>
                Q (some (.int v5)) s5)))))) ∧
          (v3 = (-1) →
            Q (some (.int (-1))) s3)))))) ∧
    (v1 = 0 →
      Q (some (.int (-1))) s1)))) : pl_At (n + 1) 157 0 [(0, .ref 0), (1, .int x1), (2, .int x2), (3, .int x3)] [] s Q :=
  pl_wp_at (stops := []) (f := 30) h rfl

-- ProofBench.needs(I)J
-- ProofBenchModel.assumed(III)I
theorem pl_266_0 {n : Nat} {x1 : Int32} {x2 : Int32} {x3 : Int32} {s : ps_S} {Q : Option Value → ps_S → Prop} (h :
  pl_Cl n 262 [.ref 1131, .int x1] s (ps_rI (fun v1 s1 =>
    (v1 = 0 →
      Q (some (.int (-1))) s1) ∧
    (v1 ≠ 0 →
      (pm_in x1 41 = true →
        pl_Cl n 200 [.int x2, .int 0, .int ((ps_a s1 1157 (Int32.toNatClampNeg x1)) - 1)] s1 (ps_rI (fun v2 s2 =>
          (v2 = 0 →
            Q (some (.int (-1))) s2) ∧
          (v2 ≠ 0 →
            pl_Cl n 243 [.int x1, .int x2] s2 (ps_rI (fun v3 s3 =>
              pl_Cl n 264 [.ref 1131, .int v3, .int x3] s3 (ps_rI (fun v4 s4 =>
                Q (some (.int v4)) s4)))))))))))) : pl_At (n + 1) 266 0 [(0, .ref 1131), (1, .int x1), (2, .int x2), (3, .int x3)] [] s Q :=
  pl_wp_at (stops := []) (f := 28) h rfl

-- ProofBenchModel.needs(I)J
def as_P (x2 x3 v : Int32) (Ri : tq_R) : Prop := (∀ (m : Nat) (y : List Nat), x2.toInt = m → Ri.2.1[m]? = some y → pc_is y x3 v) ∧ (¬ (0 ≤ x2.toInt ∧ x2.toInt < Ri.2.1.length) → v = -1)
theorem as_eq {x2 x3 v v' : Int32} {Ri : tq_R} (h : as_P x2 x3 v Ri) (h' : as_P x2 x3 v' Ri) : v = v' := by
  by_cases y : 0 ≤ x2.toInt ∧ x2.toInt < Ri.2.1.length
  · obtain ⟨w, hw⟩ : ∃ w, Ri.2.1[x2.toInt.toNat]? = some w := ⟨_, List.getElem?_eq_getElem (by omega)⟩
    exact pc_eq (h.1 _ w (by omega) hw) (h'.1 _ w (by omega) hw)
  · exact (h.2 y).trans (h'.2 y).symm
/-- nothing is assumed there -/
theorem fs_122o {n t : Nat} {x1 : Int32} {s : ps_S} {R : Int32 → ps_S → Prop} (ht : ps_is t 8 = true) (h9 : t < 900) (hc : ¬ (0 ≤ x1.toInt ∧ x1.toInt < (ps_i s t 8).toInt)) (k : R (-1) s) : pl_Cl n 122 [.ref t, .int x1] s (ps_rI R) := by
  cases n with
  | zero => exact pl_At_0
  | succ n =>
  show pl_At (n + 1) 122 0 [(0, .ref t), (1, .int x1)] [] s (ps_rI R)
  have c0 : (0 : Int32).toInt = 0 := Int32.toInt_zero
  refine pl_122_0 (pl_nk_i (fun _ => ⟨fun h => k, fun h => pl_nk_i (fun _ => ?_)⟩))
  have h := xlt h
  cases n with
  | zero => exact pl_At_0
  | succ n =>
  show pl_At (n + 1) 182 0 [(0, .ref (ps_c0 t 7)), (1, .int x1)] [] s (ps_rI _)
  refine pl_182_0 ⟨fun _ => k, fun w => ?_⟩
  have w := xle w
  omega
section SBC
variable {p c : Nat} {D : List tq_R} {x1 x2 x3 : Int32} {s : ps_S}
theorem fs_165 {n : Nat} {R : Int64 → ps_S → Prop} (hp : p = 50 ∨ p = 460) (hr : ps_r s 0 4 = p) (P : cpP s p D c) (k : ∀ v, sp_is D x1 (fun Ri => v = Ri.2.2.2.2) (v = -1) → R v s) : pl_Cl n 165 [.ref 0, .int x1] s (ps_rJ R) := by
  cases n with
  | zero => exact pl_At_0
  | succ n =>
  show pl_At (n + 1) 165 0 [(0, .ref 0), (1, .int x1)] [] s (ps_rJ R)
  obtain ⟨pD, p8, -⟩ := P
  have d40 := pD.1
  refine pl_165_0 ?_
  rw [hr]
  refine fs_32 (fun y1 y2 => ⟨fun w => absurd w (by decide), fun _ => ?_⟩) (fun y => ⟨fun _ => k _ ⟨fun i Ri hi hk => absurd (show 0 ≤ x1.toInt ∧ x1.toInt < (ps_i s p 8).toInt from by have := (List.getElem?_eq_some_iff.mp hk).1; omega) y, fun _ => rfl⟩, fun w => absurd rfl w⟩)
  rw [hr]
  obtain ⟨i, hi⟩ : ∃ i : Nat, x1.toInt = i := ⟨x1.toInt.toNat, by omega⟩
  have hiD : i < D.length := by omega
  obtain ⟨Ri, hk⟩ : ∃ Ri, D[i]? = some Ri := ⟨_, List.getElem?_eq_getElem hiD⟩
  obtain ⟨r1, r2, r3, r4, r5, r6, r7⟩ := pD.2 i Ri hk
  refine fs_33 hp hi (by omega) (pl_nk_i (fun _ => k _ ⟨fun j Rj hj hkj => ?_, fun y => absurd (show 0 ≤ x1.toInt ∧ x1.toInt < D.length from by omega) y⟩))
  have e : j = i := by omega
  rw [e, hk] at hkj
  cases hkj
  exact r7
theorem fs_157 {n : Nat} {R : Int32 → ps_S → Prop} (hp : p = 50 ∨ p = 460) (hr : ps_r s 0 4 = p) (P : cpP s p D c) (k : ∀ v, sp_is D x1 (as_P x2 x3 v) (v = -1) → R v s) : pl_Cl n 157 [.ref 0, .int x1, .int x2, .int x3] s (ps_rI R) := by
  cases n with
  | zero => exact pl_At_0
  | succ n =>
  show pl_At (n + 1) 157 0 [(0, .ref 0), (1, .int x1), (2, .int x2), (3, .int x3)] [] s (ps_rI R)
  obtain ⟨pD, p8, -⟩ := P
  have d40 := pD.1
  have cm : (-1 : Int32).toInt = -1 := by decide
  refine pl_157_0 ?_
  rw [hr]
  refine fs_32 (fun y1 y2 => ⟨fun _ => ?_, fun w => absurd w (by decide)⟩) (fun y => ⟨fun w => absurd rfl w, fun _ => k _ ⟨fun i Ri hi hk => absurd (show 0 ≤ x1.toInt ∧ x1.toInt < (ps_i s p 8).toInt from by have := (List.getElem?_eq_some_iff.mp hk).1; omega) y, fun _ => rfl⟩⟩)
  rw [hr]
  obtain ⟨i, hi⟩ : ∃ i : Nat, x1.toInt = i := ⟨x1.toInt.toNat, by omega⟩
  have hiD : i < D.length := by omega
  obtain ⟨Ri, hk⟩ : ∃ Ri, D[i]? = some Ri := ⟨_, List.getElem?_eq_getElem hiD⟩
  obtain ⟨r1, r2, r3, r4, r5, r6, r7⟩ := pD.2 i Ri hk
  have mk : ∀ v, as_P x2 x3 v Ri → sp_is D x1 (as_P x2 x3 v) (v = -1) := fun v hv => ⟨fun j Rj hj hkj => by
    have e : j = i := by omega
    rw [e, hk] at hkj
    cases hkj
    exact hv, fun y => absurd (show 0 ≤ x1.toInt ∧ x1.toInt < D.length from by omega) y⟩
  have hl := stc_lt hp (i := i) (by omega)
  refine fs_33 hp hi (by omega) ?_
  by_cases y : 0 ≤ x2.toInt ∧ x2.toInt < Ri.2.1.length
  · obtain ⟨m, hm⟩ : ∃ m : Nat, x2.toInt = m := ⟨x2.toInt.toNat, by omega⟩
    obtain ⟨w, hw⟩ : ∃ w, Ri.2.1[m]? = some w := ⟨_, List.getElem?_eq_getElem (by omega)⟩
    obtain ⟨oo, q, e1, e2, e3⟩ := r4 m w hw
    have hol := (List.getElem?_eq_some_iff.mp e2).1
    refine fs_122 (stc_is hp (i := i) (by omega)) hl.2.1 hm (by omega) (by omega) ⟨fun _ => ?_, fun z => ?_⟩
    · rw [hr]
      obtain ⟨q1, -⟩ := pD.2 oo q e2
      have e6 := (stc_c hp (i := oo) (by omega)).2.2.2.1
      have r5' := (stc_row hp (i := oo) (by omega)).2.2
      obtain ⟨t1, t2, -⟩ := cv_row r5'
      refine fs_33 hp e1 (by omega) (pl_nk_i (fun _ => ?_))
      rw [e6]
      refine fs_92 r5' t1 (by rw [t1]; exact t2) q1 (fun v z => k v (mk v ⟨fun m' w' hm' hw' => ?_, fun y' => absurd y y'⟩))
      have em : m' = m := by omega
      rw [em, hw] at hw'
      cases hw'
      rw [← e3]
      refine ⟨fun c' hc hl' => ?_, fun y3 => z.2 (by omega)⟩
      have := (List.getElem?_eq_some_iff.mp hl').1
      exact z.1 ⟨hc, by omega⟩ c' hl'
    · have z := xeq z
      omega
  · refine fs_122o (stc_is hp (i := i) (by omega)) hl.2.1 (fun w => y (by omega)) ⟨fun z => absurd rfl z, fun _ => k _ (mk _ ⟨fun m' w' hm' hw' => ?_, fun _ => rfl⟩)⟩
    have := (List.getElem?_eq_some_iff.mp hw').1
    omega
end SBC
section SBM
variable {c : Nat} {D : List tq_R} {x1 x2 x3 : Int32} {s : ps_S}
theorem fm_267 {n : Nat} {R : Int64 → ps_S → Prop} (P : mpP s D c) (k : ∀ v, sp_is D x1 (fun Ri => v = Ri.2.2.2.2) (v = -1) → R v s) : pl_Cl n 267 [.ref 1131, .int x1] s (ps_rJ R) := by
  cases n with
  | zero => exact pl_At_0
  | succ n =>
  show pl_At (n + 1) 267 0 [(0, .ref 1131), (1, .int x1)] [] s (ps_rJ R)
  have pD := P.1
  have d40 := pD.1
  refine pl_267_0 (fm_262 P (fun y1 y2 => ⟨fun w => absurd w (by decide), fun _ => ?_⟩) (fun y => ⟨fun _ => k _ ⟨fun i Ri hi hk => absurd (show 0 ≤ x1.toInt ∧ x1.toInt < D.length from by have := (List.getElem?_eq_some_iff.mp hk).1; omega) y, fun _ => rfl⟩, fun w => absurd rfl w⟩))
  obtain ⟨i, hi⟩ : ∃ i : Nat, x1.toInt = i := ⟨x1.toInt.toNat, by omega⟩
  have hiD : i < D.length := by omega
  obtain ⟨Ri, hk⟩ : ∃ Ri, D[i]? = some Ri := ⟨_, List.getElem?_eq_getElem hiD⟩
  obtain ⟨r1, r2, r3, r4, r5, r6, r7⟩ := pD.2 i Ri hk
  rw [xtn hi]
  intro _
  refine k _ ⟨fun j Rj hj hkj => ?_, fun y => absurd (show 0 ≤ x1.toInt ∧ x1.toInt < D.length from by omega) y⟩
  have e : j = i := by omega
  rw [e, hk] at hkj
  cases hkj
  exact r7
theorem fm_266 {n : Nat} {R : Int32 → ps_S → Prop} (P : mpP s D c) (k : ∀ v, sp_is D x1 (as_P x2 x3 v) (v = -1) → R v s) : pl_Cl n 266 [.ref 1131, .int x1, .int x2, .int x3] s (ps_rI R) := by
  cases n with
  | zero => exact pl_At_0
  | succ n =>
  show pl_At (n + 1) 266 0 [(0, .ref 1131), (1, .int x1), (2, .int x2), (3, .int x3)] [] s (ps_rI R)
  have pD := P.1
  have d40 := pD.1
  have c0 : (0 : Int32).toInt = 0 := Int32.toInt_zero
  have c1 : (1 : Int32).toInt = 1 := by decide
  refine pl_266_0 (fm_262 P (fun y1 y2 => ⟨fun w => absurd w (by decide), fun _ => ?_⟩) (fun y => ⟨fun _ => k _ ⟨fun i Ri hi hk => absurd (show 0 ≤ x1.toInt ∧ x1.toInt < D.length from by have := (List.getElem?_eq_some_iff.mp hk).1; omega) y, fun _ => rfl⟩, fun w => absurd rfl w⟩))
  obtain ⟨i, hi⟩ : ∃ i : Nat, x1.toInt = i := ⟨x1.toInt.toNat, by omega⟩
  have hiD : i < D.length := by omega
  obtain ⟨Ri, hk⟩ : ∃ Ri, D[i]? = some Ri := ⟨_, List.getElem?_eq_getElem hiD⟩
  obtain ⟨r1, r2, r3, r4, r5, r6, r7⟩ := pD.2 i Ri hk
  have mk : ∀ v, as_P x2 x3 v Ri → sp_is D x1 (as_P x2 x3 v) (v = -1) := fun v hv => ⟨fun j Rj hj hkj => by
    have e : j = i := by omega
    rw [e, hk] at hkj
    cases hkj
    exact hv, fun y => absurd (show 0 ≤ x1.toInt ∧ x1.toInt < D.length from by omega) y⟩
  rw [xtn hi]
  intro _
  have e : ((ps_a s 1157 i) - 1).toInt = (Ri.2.1.length : Int) - 1 := by rw [xIs (by omega) (by omega), r2, c1]
  refine fm_200 (fun z1 z2 => ⟨fun w => absurd w (by decide), fun _ => ?_⟩) (fun z => ⟨fun _ => k _ (mk _ ⟨fun m' w' hm' hw' => ?_, fun _ => rfl⟩), fun w => absurd rfl w⟩)
  · obtain ⟨m, hm⟩ : ∃ m : Nat, x2.toInt = m := ⟨x2.toInt.toNat, by omega⟩
    obtain ⟨w, hw⟩ : ∃ w, Ri.2.1[m]? = some w := ⟨_, List.getElem?_eq_getElem (by omega)⟩
    refine fm_243 (i := i) (m := m) hi (by omega) hm (by omega) (fun v3 q3 => fm_264 q3 (by omega) (r4 m w hw) (fun v4 q4 => k _ (mk _ ⟨fun m' w' hm' hw' => ?_, fun y' => absurd (show 0 ≤ x2.toInt ∧ x2.toInt < Ri.2.1.length from by omega) y'⟩)))
    have em : m' = m := by omega
    rw [em, hw] at hw'
    cases hw'
    exact q4
  · have := (List.getElem?_eq_some_iff.mp hw').1
    exact absurd ⟨by omega, by omega⟩ z
end SBM
end
section
set_option maxRecDepth 100000
/-! what the shelf says: theorem, on both sides -/
-- ProofBench.theorem(II)I
theorem pl_159_0 {n : Nat} {x1 : Int32} {x2 : Int32} {s : ps_S} {Q : Option Value → ps_S → Prop} (h :
  pl_Cl n 109 [.ref 870, .int x1] s (ps_rI (fun v1 s1 =>
    (v1 = 0 →
      Q (some (.int (-1))) s1) ∧
    (v1 ≠ 0 →
      pl_Cl n 110 [.ref 870, .int x1] s1 (ps_rA (fun v2 s2 =>
        pl_Cl n 92 [.ref v2, .int x2] s2 (ps_rI (fun v3 s3 =>
          Q (some (.int v3)) s3)))))))) : pl_At (n + 1) 159 0 [(0, .ref 0), (1, .int x1), (2, .int x2)] [] s Q :=
  pl_wp_at (stops := []) (f := 17) h rfl

-- ProofBenchModel.theorem(II)I
theorem pl_269_0 {n : Nat} {x1 : Int32} {x2 : Int32} {s : ps_S} {Q : Option Value → ps_S → Prop} (h :
  pl_Cl n 200 [.int x1, .int 0, .int ((ps_i s 1131 54) - 1)] s (ps_rI (fun v1 s1 =>
    (v1 = 0 →
      Q (some (.int (-1))) s1) ∧
    (v1 ≠ 0 →
      pl_Cl n 264 [.ref 1131, .int ((21320 : Int32) + ((41 : Int32) * x1)), .int x2] s1 (ps_rI (fun v2 s2 =>
        Q (some (.int v2)) s2)))))) : pl_At (n + 1) 269 0 [(0, .ref 1131), (1, .int x1), (2, .int x2)] [] s Q :=
  pl_wp_at (stops := []) (f := 22) h rfl

def sh_is (Θ : List tq_H) (x : Int32) (P : tq_H → Prop) (N : Prop) : Prop := (∀ (i : Nat) (q : tq_H), x.toInt = i → Θ[i]? = some q → P q) ∧ (¬ (0 ≤ x.toInt ∧ x.toInt < Θ.length) → N)
theorem sh_c {Θ : List tq_H} {x : Int32} {P P' : tq_H → Prop} {N N' Q : Prop} (h : sh_is Θ x P N) (h' : sh_is Θ x P' N') (hP : ∀ q, P q → P' q → Q) (hN : N → N' → Q) : Q := by
  by_cases y : 0 ≤ x.toInt ∧ x.toInt < Θ.length
  · obtain ⟨q, hk⟩ : ∃ q, Θ[x.toInt.toNat]? = some q := ⟨_, List.getElem?_eq_getElem (by omega)⟩
    exact hP q (h.1 _ q (by omega) hk) (h'.1 _ q (by omega) hk)
  · exact hN (h.2 y) (h'.2 y)
section SCC
variable {Θ : List tq_H} {x1 x2 : Int32} {s : ps_S}
theorem fs_159 {n : Nat} {R : Int32 → ps_S → Prop} (S : cSh s 870 Θ) (k : ∀ v, sh_is Θ x1 (fun q => pc_is q.1 x2 v) (v = -1) → R v s) : pl_Cl n 159 [.ref 0, .int x1, .int x2] s (ps_rI R) := by
  cases n with
  | zero => exact pl_At_0
  | succ n =>
  show pl_At (n + 1) 159 0 [(0, .ref 0), (1, .int x1), (2, .int x2)] [] s (ps_rI R)
  obtain ⟨z1, z2, z3⟩ := S
  refine pl_159_0 (fs_109 (fun y1 y2 => ⟨fun w => absurd w (by decide), fun _ => ?_⟩) (fun y => ⟨fun _ => k _ ⟨fun i q hi hk => absurd (show 0 ≤ x1.toInt ∧ x1.toInt < (ps_i s 870 5).toInt from by have := (List.getElem?_eq_some_iff.mp hk).1; omega) y, fun _ => rfl⟩, fun w => absurd rfl w⟩))
  obtain ⟨i, hi⟩ : ∃ i : Nat, x1.toInt = i := ⟨x1.toInt.toNat, by omega⟩
  have hiD : i < Θ.length := by omega
  obtain ⟨q, hk⟩ : ∃ q, Θ[i]? = some q := ⟨_, List.getElem?_eq_getElem hiD⟩
  obtain ⟨W, -⟩ := z3 i q hk
  have r5 := r12_is (n1 := i) (by omega)
  obtain ⟨t1, t2, -⟩ := cv_row r5
  refine fs_110 (q := 870) (Or.inl rfl) hi (by omega) ?_
  refine fs_92 r5 t1 (by rw [t1]; exact t2) W (fun v z => k v ⟨fun j q' hj hkj => ?_, fun y => absurd (show 0 ≤ x1.toInt ∧ x1.toInt < Θ.length from by omega) y⟩)
  have e : j = i := by omega
  rw [e, hk] at hkj
  cases hkj
  refine ⟨fun c' hc hl => ?_, fun y => z.2 (by omega)⟩
  have := (List.getElem?_eq_some_iff.mp hl).1
  exact z.1 ⟨hc, by omega⟩ c' hl
theorem fm_269 {n : Nat} {R : Int32 → ps_S → Prop} (S : mSh s Θ) (k : ∀ v, sh_is Θ x1 (fun q => pc_is q.1 x2 v) (v = -1) → R v s) : pl_Cl n 269 [.ref 1131, .int x1, .int x2] s (ps_rI R) := by
  cases n with
  | zero => exact pl_At_0
  | succ n =>
  show pl_At (n + 1) 269 0 [(0, .ref 1131), (1, .int x1), (2, .int x2)] [] s (ps_rI R)
  obtain ⟨z1, z2, z3⟩ := S
  have c0 : (0 : Int32).toInt = 0 := Int32.toInt_zero
  have c1 : (1 : Int32).toInt = 1 := by decide
  have e : ((ps_i s 1131 54) - 1).toInt = (Θ.length : Int) - 1 := by rw [xIs (by omega) (by omega), z1, c1]
  refine pl_269_0 (fm_200 (fun y1 y2 => ⟨fun w => absurd w (by decide), fun _ => ?_⟩) (fun y => ⟨fun _ => k _ ⟨fun i q hi hk => ?_, fun _ => rfl⟩, fun w => absurd rfl w⟩))
  · obtain ⟨i, hi⟩ : ∃ i : Nat, x1.toInt = i := ⟨x1.toInt.toNat, by omega⟩
    have hiD : i < Θ.length := by omega
    obtain ⟨q, hk⟩ : ∃ q, Θ[i]? = some q := ⟨_, List.getElem?_eq_getElem hiD⟩
    obtain ⟨W, -⟩ := z3 i q hk
    refine fm_264 (rowH hi (by omega)) (by omega) W (fun v z => k v ⟨fun j q' hj hkj => ?_, fun y => absurd (show 0 ≤ x1.toInt ∧ x1.toInt < Θ.length from by omega) y⟩)
    have e : j = i := by omega
    rw [e, hk] at hkj
    cases hkj
    exact z
  · have := (List.getElem?_eq_some_iff.mp hk).1
    exact absurd ⟨by omega, by omega⟩ y
end SCC
end
section
set_option maxRecDepth 100000
/-! theorems lean on axioms through theorems: leans on both sides -/
-- ProofBench.leans(II)I
theorem pl_160_0 {n : Nat} {x1 : Int32} {x2 : Int32} {s : ps_S} {Q : Option Value → ps_S → Prop} (h :
  pl_Cl n 109 [.ref 870, .int x1] s (ps_rI (fun v1 s1 =>
    (v1 ≠ 0 →
      (x2 = 0 →
        pl_Cl n 182 [.ref 874, .int x1] s1 (ps_rI (fun v2 s2 =>
          Q (some (.int v2)) s2))) ∧
      (x2 ≠ 0 →
        (x2 = 1 →
        pl_Cl n 182 [.ref 875, .int x1] s1 (ps_rI (fun v3 s3 =>
          Q (some (.int v3)) s3))) ∧
      (x2 ≠ 1 →
        (x2 = 2 →
        pl_Cl n 182 [.ref 876, .int x1] s1 (ps_rI (fun v4 s4 =>
          Q (some (.int v4)) s4))) ∧
      (x2 ≠ 2 →
        Q (some (.int (-1))) s1)))) ∧
    (v1 = 0 →
      Q (some (.int (-1))) s1)))) : pl_At (n + 1) 160 0 [(0, .ref 0), (1, .int x1), (2, .int x2)] [] s Q :=
  pl_wp_at (stops := []) (f := 31) h rfl

-- ProofBenchModel.through(I)I
theorem pl_270_0 {n : Nat} {x1 : Int32} {s : ps_S} {Q : Option Value → ps_S → Prop} (h :
  pl_At n 270 9 [(0, .ref 1131), (2, .int ((1 : Int32) <<< (x1 &&& 31))), (3, .int 0), (4, .int x1)] [] s Q) : pl_At (n + 1) 270 0 [(0, .ref 1131), (1, .int x1)] [] s Q :=
  pl_wp_at (stops := [(9, [0, 2, 3, 4])]) (f := 10) h rfl

theorem pl_270_9 {n : Nat} {x2 : Int32} {x3 : Int32} {x4 : Int32} {s : ps_S} {Q : Option Value → ps_S → Prop} (h :
  (x4 < 0 →
    Q (some (.int x3)) s) ∧
  (0 ≤ x4 →
    (((x2 >>> (x4 &&& 31)) &&& 1) ≠ 0 →
      (pm_in x4 12 = true →
        (pm_in x4 12 = true →
          pl_At n 270 9 [(0, .ref 1131), (2, .int (x2 ||| (ps_a s 1162 (Int32.toNatClampNeg x4)))), (3, .int (x3 ||| (ps_a s 1161 (Int32.toNatClampNeg x4)))), (4, .int (x4 + (-1)))] [] s Q))) ∧
    (((x2 >>> (x4 &&& 31)) &&& 1) = 0 →
      pl_At n 270 9 [(0, .ref 1131), (2, .int x2), (3, .int x3), (4, .int (x4 + (-1)))] [] s Q))) : pl_At (n + 1) 270 9 [(0, .ref 1131), (2, .int x2), (3, .int x3), (4, .int x4)] [] s Q :=
  pl_wp_at (stops := [(9, [0, 2, 3, 4])]) (f := 31) h rfl

-- ProofBenchModel.leans(II)I
theorem pl_271_0 {n : Nat} {x1 : Int32} {x2 : Int32} {s : ps_S} {Q : Option Value → ps_S → Prop} (h :
  pl_Cl n 200 [.int x1, .int 0, .int ((ps_i s 1131 54) - 1)] s (ps_rI (fun v1 s1 =>
    (v1 ≠ 0 →
      (x2 ≠ 0 →
        (x2 ≠ 1 →
          (x2 ≠ 2 →
            Q (some (.int (-1))) s1) ∧
          (x2 = 2 →
            pl_Cl n 270 [.ref 1131, .int x1] s1 (ps_rI (fun v2 s2 =>
              Q (some (.int v2)) s2)))) ∧
        (x2 = 1 →
          (pm_in x1 12 = true →
            Q (some (.int (ps_a s1 1162 (Int32.toNatClampNeg x1)))) s1))) ∧
      (x2 = 0 →
        (pm_in x1 12 = true →
          Q (some (.int (ps_a s1 1161 (Int32.toNatClampNeg x1)))) s1))) ∧
    (v1 = 0 →
      Q (some (.int (-1))) s1)))) : pl_At (n + 1) 271 0 [(0, .ref 1131), (1, .int x1), (2, .int x2)] [] s Q :=
  pl_wp_at (stops := []) (f := 40) h rfl

/-- a bit -/
def bt (x : Int32) (j : Nat) : Bool := !decide (((x >>> (nI j &&& 31)) &&& 1) = 0)
theorem dor (A B : Int32) : (!decide (A ||| B = 0)) = (!decide (A = 0) || !decide (B = 0)) := by
  by_cases h1 : A = 0
  · rw [h1, Int32.zero_or, show decide ((0 : Int32) = 0) = true from rfl]
    rfl
  · have h3 : ¬ (A ||| B = 0) := fun z => h1 (Int32.or_eq_zero_iff.mp z).1
    rw [decide_eq_false h3, decide_eq_false h1]
    rfl
theorem bt_or (a b : Int32) (j : Nat) : bt (a ||| b) j = (bt a j || bt b j) := by
  have e : (((a ||| b) >>> (nI j &&& 31)) &&& 1) = ((a >>> (nI j &&& 31)) &&& 1) ||| ((b >>> (nI j &&& 31)) &&& 1) := by
    apply Int32.toBitVec_inj.mp
    rw [Int32.toBitVec_and, Int32.toBitVec_or, Int32.toBitVec_and, Int32.toBitVec_and, Int32.toBitVec_shiftRight, Int32.toBitVec_shiftRight, Int32.toBitVec_shiftRight, Int32.toBitVec_or]
    generalize ((nI j &&& 31).toBitVec.smod 32) = k
    unfold BitVec.sshiftRight'
    rw [BitVec.sshiftRight_or_distrib, BitVec.and_or_distrib_right]
  unfold bt
  rw [e]
  exact dor _ _
theorem bt_0 : ∀ j : Nat, j < 32 → bt 0 j = false := fun j hj => by
  have h : ∀ i : Fin 32, bt 0 i.val = false := by decide +kernel
  exact h ⟨j, hj⟩
theorem bt_b {k j : Nat} (hk : k < 32) (hj : j < 32) : bt (tq_b k) j = decide (j = k) := by
  have h : ∀ i : Fin 32, ∀ m : Fin 32, bt (tq_b i.val) m.val = decide (m.val = i.val) := by decide +kernel
  exact h ⟨k, hk⟩ ⟨j, hj⟩
theorem bt_1 {x : Int32} {j : Nat} (h : ((x >>> (nI j &&& 31)) &&& 1) ≠ 0) : bt x j = true := by
  unfold bt
  rw [decide_eq_false h]
  rfl
theorem bt_no {x : Int32} {j : Nat} (h : ((x >>> (nI j &&& 31)) &&& 1) = 0) : bt x j = false := by
  unfold bt
  rw [decide_eq_true h]
  rfl
/-- all of those below m that a set has -/
def orb (f : Nat → Int32) (S : Int32) : Nat → Int32
  | 0 => 0
  | m + 1 => orb f S m ||| (if bt S m = true then f m else 0)
theorem or4 (a b c d : Int32) : (a ||| b) ||| (c ||| d) = (a ||| c) ||| (b ||| d) := by
  rw [Int32.or_assoc, Int32.or_assoc, ← Int32.or_assoc b c d, ← Int32.or_assoc c b d, Int32.or_comm b c]
theorem orb_or {f : Nat → Int32} {S S' : Int32} : ∀ m : Nat, orb f (S ||| S') m = orb f S m ||| orb f S' m
  | 0 => by
    show (0 : Int32) = 0 ||| 0
    rw [Int32.or_zero]
  | m + 1 => by
    show orb f (S ||| S') m ||| (if bt (S ||| S') m = true then f m else 0) = (orb f S m ||| (if bt S m = true then f m else 0)) ||| (orb f S' m ||| (if bt S' m = true then f m else 0))
    rw [orb_or m, or4 (orb f S m), bt_or]
    congr 1
    cases bt S m <;> cases bt S' m
    · show (0 : Int32) = 0 ||| 0
      rw [Int32.or_zero]
    · show f m = 0 ||| f m
      rw [Int32.zero_or]
    · show f m = f m ||| 0
      rw [Int32.or_zero]
    · show f m = f m ||| f m
      rw [Int32.or_self]
theorem orb_0 {f : Nat → Int32} {S : Int32} : ∀ m : Nat, (∀ j, j < m → bt S j = false) → orb f S m = 0
  | 0, _ => rfl
  | m + 1, h => by
    show orb f S m ||| (if bt S m = true then f m else 0) = 0
    rw [orb_0 m (fun j hj => h j (by omega)), h m (by omega)]
    show (0 : Int32) ||| 0 = 0
    rw [Int32.or_zero]
theorem orb_b {f : Nat → Int32} {k : Nat} (hk : k < 31) : orb f (tq_b k) (k + 1) = f k := by
  show orb f (tq_b k) k ||| (if bt (tq_b k) k = true then f k else 0) = f k
  rw [orb_0 k (fun j hj => by rw [bt_b (by omega) (by omega)]; exact decide_eq_false (by omega)), bt_b (by omega) (by omega), decide_eq_true rfl, if_pos rfl, Int32.zero_or]
theorem orb_congr {f f' : Nat → Int32} {S : Int32} : ∀ m : Nat, (∀ j, j < m → f j = f' j) → orb f S m = orb f' S m
  | 0, _ => rfl
  | m + 1, h => by
    show orb f S m ||| (if bt S m = true then f m else 0) = orb f' S m ||| (if bt S m = true then f' m else 0)
    rw [orb_congr m (fun j hj => h j (by omega)), h m (by omega)]
/-- a theorem's axioms, theorems, axioms through all -/
def tq_hA (Θ : List tq_H) (k : Nat) : Int32 := (Θ.getD k ([], 0, 0, 0)).2.1
def tq_hU (Θ : List tq_H) (k : Nat) : Int32 := (Θ.getD k ([], 0, 0, 0)).2.2.1
def tq_hT (Θ : List tq_H) (k : Nat) : Int32 := (Θ.getD k ([], 0, 0, 0)).2.2.2
/-- each is what it is by those ahead of it -/
def THI (Θ : List tq_H) : Prop := ∀ k, k < Θ.length → tq_hT Θ k = tq_hA Θ k ||| orb (tq_hT Θ) (tq_hU Θ k) k ∧ ∀ j, k ≤ j → j < 12 → bt (tq_hU Θ k) j = false
theorem tq_h_at {Θ : List tq_H} {k : Nat} {q : tq_H} (h : Θ[k]? = some q) : tq_hA Θ k = q.2.1 ∧ tq_hU Θ k = q.2.2.1 ∧ tq_hT Θ k = q.2.2.2 := by
  unfold tq_hA tq_hU tq_hT
  rw [List.getD_eq_getElem?_getD, h]
  exact ⟨rfl, rfl, rfl⟩
theorem orb_top {f : Nat → Int32} {S : Int32} {k : Nat} : ∀ m : Nat, k ≤ m → (∀ j, k ≤ j → j < m → bt S j = false) → orb f S m = orb f S k
  | 0, h, _ => by
    have e : k = 0 := by omega
    rw [e]
  | m + 1, h, hb => by
    by_cases e : k = m + 1
    · rw [e]
    · show orb f S m ||| (if bt S m = true then f m else 0) = orb f S k
      rw [hb m (by omega) (by omega), orb_top m (by omega) (fun j a b => hb j a (by omega))]
      show orb f S k ||| 0 = orb f S k
      rw [Int32.or_zero]
/-- what leans answers -/
def ln_P (x v : Int32) (q : tq_H) : Prop := (x.toInt = 0 → v = q.2.1) ∧ (x.toInt = 1 → v = q.2.2.1) ∧ (x.toInt = 2 → v = q.2.2.2) ∧ (¬ (0 ≤ x.toInt ∧ x.toInt ≤ 2) → v = -1)
theorem ln_eq {x v v' : Int32} {q : tq_H} (h : ln_P x v q) (h' : ln_P x v' q) : v = v' := by
  obtain ⟨a0, a1, a2, a3⟩ := h
  obtain ⟨b0, b1, b2, b3⟩ := h'
  by_cases y : 0 ≤ x.toInt ∧ x.toInt ≤ 2
  · by_cases y0 : x.toInt = 0
    · rw [a0 y0, b0 y0]
    · by_cases y1 : x.toInt = 1
      · rw [a1 y1, b1 y1]
      · rw [a2 (by omega), b2 (by omega)]
  · rw [a3 y, b3 y]
section LNS
variable {Θ : List tq_H} {x1 x2 : Int32} {s : ps_S}
theorem fs_160 {n : Nat} {R : Int32 → ps_S → Prop} (S : cSh s 870 Θ) (k : ∀ v, sh_is Θ x1 (ln_P x2 v) (v = -1) → R v s) : pl_Cl n 160 [.ref 0, .int x1, .int x2] s (ps_rI R) := by
  cases n with
  | zero => exact pl_At_0
  | succ n =>
  show pl_At (n + 1) 160 0 [(0, .ref 0), (1, .int x1), (2, .int x2)] [] s (ps_rI R)
  obtain ⟨z1, z2, z3⟩ := S
  have c0 : (0 : Int32).toInt = 0 := Int32.toInt_zero
  have c1 : (1 : Int32).toInt = 1 := by decide
  have c2 : (2 : Int32).toInt = 2 := by decide
  refine pl_160_0 (fs_109 (fun y1 y2 => ⟨fun _ => ?_, fun w => absurd w (by decide)⟩) (fun y => ⟨fun w => absurd rfl w, fun _ => k _ ⟨fun i q hi hk => absurd (show 0 ≤ x1.toInt ∧ x1.toInt < (ps_i s 870 5).toInt from by have := (List.getElem?_eq_some_iff.mp hk).1; omega) y, fun _ => rfl⟩⟩))
  obtain ⟨i, hi⟩ : ∃ i : Nat, x1.toInt = i := ⟨x1.toInt.toNat, by omega⟩
  have hiD : i < Θ.length := by omega
  obtain ⟨q, hk⟩ : ∃ q, Θ[i]? = some q := ⟨_, List.getElem?_eq_getElem hiD⟩
  obtain ⟨-, e1, e2, e3⟩ := z3 i q hk
  have KK : ∀ v : Int32, ln_P x2 v q → R v s := fun v z => k v ⟨fun j q' hj hkj => by
    have e : j = i := by omega
    rw [e, hk] at hkj
    cases hkj
    exact z, fun y => absurd (show 0 ≤ x1.toInt ∧ x1.toInt < Θ.length from by omega) y⟩
  refine ⟨fun w => ?_, fun w => ⟨fun w1 => ?_, fun w1 => ⟨fun w2 => ?_, fun w2 => ?_⟩⟩⟩
  · have w := xeq w
    refine fs_182 (r0 := 874) hi (show i < 12 by omega) (show (12 : Nat) ≤ 20000 by decide) (KK _ ⟨fun _ => e1, fun y => by omega, fun y => by omega, fun y => by omega⟩)
  · have w := xne w
    have w1 := xeq w1
    refine fs_182 (r0 := 875) hi (show i < 12 by omega) (show (12 : Nat) ≤ 20000 by decide) (KK _ ⟨fun y => by omega, fun _ => e2, fun y => by omega, fun y => by omega⟩)
  · have w := xne w
    have w1 := xne w1
    have w2 := xeq w2
    refine fs_182 (r0 := 876) hi (show i < 12 by omega) (show (12 : Nat) ≤ 20000 by decide) (KK _ ⟨fun y => by omega, fun y => by omega, fun _ => e3, fun y => by omega⟩)
  · have w := xne w
    have w1 := xne w1
    have w2 := xne w2
    exact KK _ ⟨fun y => by omega, fun y => by omega, fun y => by omega, fun _ => rfl⟩
theorem fm_270_9 {n0 : Nat} {R : Int32 → ps_S → Prop} (S : mSh s Θ) (hT : THI Θ) (h12 : n0 < Θ.length) (k : R (tq_hT Θ n0) s) : ∀ (n : Nat) {x2 x3 x4 : Int32} {m : Nat}, x4.toInt = (m : Int) - 1 → m ≤ n0 + 1 → x3 ||| orb (tq_hT Θ) x2 m = tq_hT Θ n0 → pl_At n 270 9 [(0, .ref 1131), (2, .int x2), (3, .int x3), (4, .int x4)] [] s (ps_rI R)
  | 0, _, _, _, _, _, _, _ => pl_At_0
  | n + 1, x2, x3, x4, m, h4, hm, he => by
    have c0 : (0 : Int32).toInt = 0 := Int32.toInt_zero
    refine pl_270_9 ⟨fun w => ?_, fun w => ?_⟩
    · have w := xlt w
      have e : m = 0 := by omega
      subst e
      have he : x3 ||| 0 = tq_hT Θ n0 := he
      rw [Int32.or_zero] at he
      rw [he]
      exact k
    · have w := xle w
      obtain ⟨j, rfl⟩ : ∃ j, m = j + 1 := ⟨m - 1, by omega⟩
      have h4 : x4.toInt = j := by omega
      have hj : j < Θ.length := by omega
      obtain ⟨q, hk⟩ : ∃ q, Θ[j]? = some q := ⟨_, List.getElem?_eq_getElem hj⟩
      obtain ⟨z1, z2, z3⟩ := S
      obtain ⟨-, e1, e2⟩ := z3 j q hk
      obtain ⟨t1, t2, t3⟩ := tq_h_at hk
      obtain ⟨i1, -⟩ := hT j hj
      have h4' : (x4 + (-1)).toInt = (j : Int) - 1 := xmin1 h4
      have e4 : x4 = nI j := xnI h4
      have et : x4.toNatClampNeg = j := xtn h4
      have he : x3 ||| (orb (tq_hT Θ) x2 j ||| (if bt x2 j = true then tq_hT Θ j else 0)) = tq_hT Θ n0 := he
      refine ⟨fun y => fun _ _ => ?_, fun y => ?_⟩
      · rw [e4] at y
        rw [bt_1 y, if_pos rfl] at he
        refine fm_270_9 ⟨z1, z2, z3⟩ hT h12 k n (m := j) h4' (by omega) ?_
        rw [et, e2, e1, ← t1, ← t2, orb_or, ← he, i1]
        rw [or4 x3 (tq_hA Θ j) (orb (tq_hT Θ) x2 j), Int32.or_assoc x3 (orb (tq_hT Θ) x2 j)]
      · rw [e4] at y
        rw [bt_no y] at he
        have he : x3 ||| (orb (tq_hT Θ) x2 j ||| 0) = tq_hT Θ n0 := he
        rw [Int32.or_zero] at he
        exact fm_270_9 ⟨z1, z2, z3⟩ hT h12 k n (m := j) h4' (by omega) he
theorem fm_270 {n i : Nat} {R : Int32 → ps_S → Prop} (S : mSh s Θ) (hT : THI Θ) (h1 : x1.toInt = i) (hi : i < Θ.length) (k : R (tq_hT Θ i) s) : pl_Cl n 270 [.ref 1131, .int x1] s (ps_rI R) := by
  cases n with
  | zero => exact pl_At_0
  | succ n =>
  show pl_At (n + 1) 270 0 [(0, .ref 1131), (1, .int x1)] [] s (ps_rI R)
  have h12 := S.2.1
  refine pl_270_0 (fm_270_9 S hT hi k n (m := i + 1) (by omega) (by omega) ?_)
  rw [xnI h1]
  show 0 ||| orb (tq_hT Θ) (tq_b i) (i + 1) = _
  rw [orb_b (by omega), Int32.zero_or]
theorem fm_271 {n : Nat} {R : Int32 → ps_S → Prop} (S : mSh s Θ) (hT : THI Θ) (k : ∀ v, sh_is Θ x1 (ln_P x2 v) (v = -1) → R v s) : pl_Cl n 271 [.ref 1131, .int x1, .int x2] s (ps_rI R) := by
  cases n with
  | zero => exact pl_At_0
  | succ n =>
  show pl_At (n + 1) 271 0 [(0, .ref 1131), (1, .int x1), (2, .int x2)] [] s (ps_rI R)
  obtain ⟨z1, z2, z3⟩ := id S
  have c0 : (0 : Int32).toInt = 0 := Int32.toInt_zero
  have c1 : (1 : Int32).toInt = 1 := by decide
  have c2 : (2 : Int32).toInt = 2 := by decide
  have e : ((ps_i s 1131 54) - 1).toInt = (Θ.length : Int) - 1 := by rw [xIs (by omega) (by omega), z1, c1]
  refine pl_271_0 (fm_200 (fun y1 y2 => ⟨fun _ => ?_, fun w => absurd w (by decide)⟩) (fun y => ⟨fun w => absurd rfl w, fun _ => k _ ⟨fun i q hi hk => ?_, fun _ => rfl⟩⟩))
  · obtain ⟨i, hi⟩ : ∃ i : Nat, x1.toInt = i := ⟨x1.toInt.toNat, by omega⟩
    have hiD : i < Θ.length := by omega
    obtain ⟨q, hk⟩ : ∃ q, Θ[i]? = some q := ⟨_, List.getElem?_eq_getElem hiD⟩
    obtain ⟨-, e1, e2⟩ := z3 i q hk
    obtain ⟨-, -, t3⟩ := tq_h_at hk
    have KK : ∀ v : Int32, ln_P x2 v q → R v s := fun v z => k v ⟨fun j q' hj hkj => by
      have e : j = i := by omega
      rw [e, hk] at hkj
      cases hkj
      exact z, fun y => absurd (show 0 ≤ x1.toInt ∧ x1.toInt < Θ.length from by omega) y⟩
    have et : x1.toNatClampNeg = i := xtn hi
    refine ⟨fun w => ⟨fun w1 => ⟨fun w2 => ?_, fun w2 => ?_⟩, fun w1 => ?_⟩, fun w => ?_⟩
    · have w := xne w
      have w1 := xne w1
      have w2 := xne w2
      exact KK _ ⟨fun y => by omega, fun y => by omega, fun y => by omega, fun _ => rfl⟩
    · have w := xne w
      have w1 := xne w1
      have w2 := xeq w2
      exact fm_270 S hT hi hiD (KK _ ⟨fun y => by omega, fun y => by omega, fun _ => t3, fun y => by omega⟩)
    · have w := xne w
      have w1 := xeq w1
      intro _
      rw [et]
      exact KK _ ⟨fun y => by omega, fun _ => e2, fun y => by omega, fun y => by omega⟩
    · have w := xeq w
      intro _
      rw [et]
      exact KK _ ⟨fun _ => e1, fun y => by omega, fun y => by omega, fun y => by omega⟩
  · have := (List.getElem?_eq_some_iff.mp hk).1
    exact absurd ⟨by omega, by omega⟩ y
end LNS
end
