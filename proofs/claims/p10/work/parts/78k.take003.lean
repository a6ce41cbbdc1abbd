set_option maxRecDepth 100000
section
variable {p th : Nat} {h : tx_H} {Θ : List tq_H} {D : List tq_R} {st : tp_P} {s : ps_S} {R : Int32 → ps_S → Prop} {x2 : Int32}
theorem fs_42 {n : Nat} (hp : p = 50 ∨ p = 460) (hi : D.length < 40) (X : cpX s p th h Θ D st) (hD : tq_GD h.1 D) (hG : tp_G h.1 h.2.length st) (B : cpB s p (stc p D.length)) (hpr : tq_pr Θ D st) (hx : x2.toInt = D.length) (k : ∀ v s', cpK s p h Θ D st v s' → R v s') : pl_Cl n 42 [.ref p, .ref (stc p D.length), .int x2, .ref 870] s (ps_rI R) := by
  cases n with
  | zero => exact pl_At_0
  | succ n =>
  show pl_At (n + 1) 42 0 [(0, .ref p), (1, .ref (stc p D.length)), (2, .int x2), (3, .ref 870)] [] s (ps_rI R)
  have hl := stc_lt hp hi
  obtain ⟨⟨r, n1, n2, n3⟩, ⟨ax, x⟩, tt, f⟩ := st
  obtain ⟨t0, t1, t2, t3, -⟩ := id X.2.2.2.1
  rcases tp_ok_c hG.1 with rfl | rfl | rfl | rfl | rfl | rfl | rfl | rfl | rfl | rfl | rfl | rfl | rfl | rfl | rfl | rfl | rfl | rfl | rfl
  · have er : (ps_i s (stc p D.length) 0).toInt = (6 : Int) := t0
    refine pl_42_0 (fs_37o (fun v1 => pl_nk_i (fun _ => pl_nk_i (fun _ => ?_))))
    refine ⟨fun _ => ?_, fun z => absurd (show (ps_i s (stc p D.length) 0).toInt = (6 : Int) from er) (xne z)⟩
    exact fs_43_r6 hp hi X hD hG B k
  · have er : (ps_i s (stc p D.length) 0).toInt = (10 : Int) := t0
    refine pl_42_0 (fs_37o (fun v1 => pl_nk_i (fun _ => pl_nk_i (fun _ => ?_))))
    refine ⟨fun z => absurd (show (ps_i s (stc p D.length) 0).toInt = (6 : Int) from xeq z) (by omega), fun _ => ?_⟩
    refine ⟨fun z => absurd (show (ps_i s (stc p D.length) 0).toInt = (7 : Int) from xeq z) (by omega), fun _ => ?_⟩
    refine ⟨fun z => absurd (show (ps_i s (stc p D.length) 0).toInt = (8 : Int) from xeq z) (by omega), fun _ => ?_⟩
    refine ⟨fun z => absurd (show (ps_i s (stc p D.length) 0).toInt = (9 : Int) from xeq z) (by omega), fun _ => ?_⟩
    refine ⟨fun _ => ?_, fun z => absurd (show (ps_i s (stc p D.length) 0).toInt = (10 : Int) from er) (xne z)⟩
    exact fs_43_r10 hp hi X hD hG B k
  · have er : (ps_i s (stc p D.length) 0).toInt = (11 : Int) := t0
    refine pl_42_0 (fs_37o (fun v1 => pl_nk_i (fun _ => pl_nk_i (fun _ => ?_))))
    refine ⟨fun z => absurd (show (ps_i s (stc p D.length) 0).toInt = (6 : Int) from xeq z) (by omega), fun _ => ?_⟩
    refine ⟨fun z => absurd (show (ps_i s (stc p D.length) 0).toInt = (7 : Int) from xeq z) (by omega), fun _ => ?_⟩
    refine ⟨fun z => absurd (show (ps_i s (stc p D.length) 0).toInt = (8 : Int) from xeq z) (by omega), fun _ => ?_⟩
    refine ⟨fun z => absurd (show (ps_i s (stc p D.length) 0).toInt = (9 : Int) from xeq z) (by omega), fun _ => ?_⟩
    refine ⟨fun z => absurd (show (ps_i s (stc p D.length) 0).toInt = (10 : Int) from xeq z) (by omega), fun _ => ?_⟩
    refine ⟨fun _ => ?_, fun z => absurd (show (ps_i s (stc p D.length) 0).toInt = (11 : Int) from er) (xne z)⟩
    exact fs_43_r11 hx hp hi X hD hG B k
  · have er : (ps_i s (stc p D.length) 0).toInt = (12 : Int) := t0
    refine pl_42_0 (fs_37o (fun v1 => pl_nk_i (fun _ => pl_nk_i (fun _ => ?_))))
    refine ⟨fun z => absurd (show (ps_i s (stc p D.length) 0).toInt = (6 : Int) from xeq z) (by omega), fun _ => ?_⟩
    refine ⟨fun z => absurd (show (ps_i s (stc p D.length) 0).toInt = (7 : Int) from xeq z) (by omega), fun _ => ?_⟩
    refine ⟨fun z => absurd (show (ps_i s (stc p D.length) 0).toInt = (8 : Int) from xeq z) (by omega), fun _ => ?_⟩
    refine ⟨fun z => absurd (show (ps_i s (stc p D.length) 0).toInt = (9 : Int) from xeq z) (by omega), fun _ => ?_⟩
    refine ⟨fun z => absurd (show (ps_i s (stc p D.length) 0).toInt = (10 : Int) from xeq z) (by omega), fun _ => ?_⟩
    refine ⟨fun z => absurd (show (ps_i s (stc p D.length) 0).toInt = (11 : Int) from xeq z) (by omega), fun _ => ?_⟩
    refine ⟨fun _ => ?_, fun z => absurd (show (ps_i s (stc p D.length) 0).toInt = (12 : Int) from er) (xne z)⟩
    exact fs_43_r12 hpr hp hi X hD hG B k
  · have er : (ps_i s (stc p D.length) 0).toInt = (13 : Int) := t0
    have p1 : n1 < D.length := hpr.1 (of_decide_eq_true rfl)
    have p2 : n2 < D.length := hpr.2.1 (of_decide_eq_true rfl)
    refine pl_42_0 (fs_37 (j := 0) (i := n1) hp (stc_is hp hi) hl.2.1 rfl (by decide) (t1 (of_decide_eq_true rfl)) (by omega) (pl_nk_i (fun _ => pl_nk_i (fun _ => ?_))))
    rw [(stc_c hp (i := n1) (by omega)).2.2.2.1]
    refine ⟨fun z => absurd (show (ps_i s (stc p D.length) 0).toInt = (6 : Int) from xeq z) (by omega), fun _ => ?_⟩
    refine ⟨fun z => absurd (show (ps_i s (stc p D.length) 0).toInt = (7 : Int) from xeq z) (by omega), fun _ => ?_⟩
    refine ⟨fun z => absurd (show (ps_i s (stc p D.length) 0).toInt = (8 : Int) from xeq z) (by omega), fun _ => ?_⟩
    refine ⟨fun z => absurd (show (ps_i s (stc p D.length) 0).toInt = (9 : Int) from xeq z) (by omega), fun _ => ?_⟩
    refine ⟨fun z => absurd (show (ps_i s (stc p D.length) 0).toInt = (10 : Int) from xeq z) (by omega), fun _ => ?_⟩
    refine ⟨fun z => absurd (show (ps_i s (stc p D.length) 0).toInt = (11 : Int) from xeq z) (by omega), fun _ => ?_⟩
    refine ⟨fun z => absurd (show (ps_i s (stc p D.length) 0).toInt = (12 : Int) from xeq z) (by omega), fun _ => ?_⟩
    refine ⟨fun _ => ?_, fun z => absurd (show (ps_i s (stc p D.length) 0).toInt = (13 : Int) from er) (xne z)⟩
    exact fs_44_r13 hp hi X hD hG B (hpr.1 (of_decide_eq_true rfl)) (hpr.2.1 (of_decide_eq_true rfl)) k
  · have er : (ps_i s (stc p D.length) 0).toInt = (14 : Int) := t0
    have p1 : n1 < D.length := hpr.1 (of_decide_eq_true rfl)
    refine pl_42_0 (fs_37 (j := 0) (i := n1) hp (stc_is hp hi) hl.2.1 rfl (by decide) (t1 (of_decide_eq_true rfl)) (by omega) (pl_nk_i (fun _ => pl_nk_i (fun _ => ?_))))
    rw [(stc_c hp (i := n1) (by omega)).2.2.2.1]
    refine ⟨fun z => absurd (show (ps_i s (stc p D.length) 0).toInt = (6 : Int) from xeq z) (by omega), fun _ => ?_⟩
    refine ⟨fun z => absurd (show (ps_i s (stc p D.length) 0).toInt = (7 : Int) from xeq z) (by omega), fun _ => ?_⟩
    refine ⟨fun z => absurd (show (ps_i s (stc p D.length) 0).toInt = (8 : Int) from xeq z) (by omega), fun _ => ?_⟩
    refine ⟨fun z => absurd (show (ps_i s (stc p D.length) 0).toInt = (9 : Int) from xeq z) (by omega), fun _ => ?_⟩
    refine ⟨fun z => absurd (show (ps_i s (stc p D.length) 0).toInt = (10 : Int) from xeq z) (by omega), fun _ => ?_⟩
    refine ⟨fun z => absurd (show (ps_i s (stc p D.length) 0).toInt = (11 : Int) from xeq z) (by omega), fun _ => ?_⟩
    refine ⟨fun z => absurd (show (ps_i s (stc p D.length) 0).toInt = (12 : Int) from xeq z) (by omega), fun _ => ?_⟩
    refine ⟨fun z => absurd (show (ps_i s (stc p D.length) 0).toInt = (13 : Int) from xeq z) (by omega), fun _ => ?_⟩
    refine ⟨fun _ => ?_, fun z => absurd (show (ps_i s (stc p D.length) 0).toInt = (14 : Int) from er) (xne z)⟩
    exact fs_45_r14 hp hi X hD hG B (hpr.1 (of_decide_eq_true rfl)) k
  · have er : (ps_i s (stc p D.length) 0).toInt = (15 : Int) := t0
    have p1 : n1 < D.length := hpr.1 (of_decide_eq_true rfl)
    refine pl_42_0 (fs_37 (j := 0) (i := n1) hp (stc_is hp hi) hl.2.1 rfl (by decide) (t1 (of_decide_eq_true rfl)) (by omega) (pl_nk_i (fun _ => pl_nk_i (fun _ => ?_))))
    rw [(stc_c hp (i := n1) (by omega)).2.2.2.1]
    refine ⟨fun z => absurd (show (ps_i s (stc p D.length) 0).toInt = (6 : Int) from xeq z) (by omega), fun _ => ?_⟩
    refine ⟨fun z => absurd (show (ps_i s (stc p D.length) 0).toInt = (7 : Int) from xeq z) (by omega), fun _ => ?_⟩
    refine ⟨fun z => absurd (show (ps_i s (stc p D.length) 0).toInt = (8 : Int) from xeq z) (by omega), fun _ => ?_⟩
    refine ⟨fun z => absurd (show (ps_i s (stc p D.length) 0).toInt = (9 : Int) from xeq z) (by omega), fun _ => ?_⟩
    refine ⟨fun z => absurd (show (ps_i s (stc p D.length) 0).toInt = (10 : Int) from xeq z) (by omega), fun _ => ?_⟩
    refine ⟨fun z => absurd (show (ps_i s (stc p D.length) 0).toInt = (11 : Int) from xeq z) (by omega), fun _ => ?_⟩
    refine ⟨fun z => absurd (show (ps_i s (stc p D.length) 0).toInt = (12 : Int) from xeq z) (by omega), fun _ => ?_⟩
    refine ⟨fun z => absurd (show (ps_i s (stc p D.length) 0).toInt = (13 : Int) from xeq z) (by omega), fun _ => ?_⟩
    refine ⟨fun z => absurd (show (ps_i s (stc p D.length) 0).toInt = (14 : Int) from xeq z) (by omega), fun _ => ?_⟩
    refine ⟨fun _ => ?_, fun z => absurd (show (ps_i s (stc p D.length) 0).toInt = (15 : Int) from er) (xne z)⟩
    exact fs_45_r15 hp hi X hD hG B (hpr.1 (of_decide_eq_true rfl)) k
  · have er : (ps_i s (stc p D.length) 0).toInt = (16 : Int) := t0
    have p1 : n1 < D.length := hpr.1 (of_decide_eq_true rfl)
    refine pl_42_0 (fs_37 (j := 0) (i := n1) hp (stc_is hp hi) hl.2.1 rfl (by decide) (t1 (of_decide_eq_true rfl)) (by omega) (pl_nk_i (fun _ => pl_nk_i (fun _ => ?_))))
    rw [(stc_c hp (i := n1) (by omega)).2.2.2.1]
    refine ⟨fun z => absurd (show (ps_i s (stc p D.length) 0).toInt = (6 : Int) from xeq z) (by omega), fun _ => ?_⟩
    refine ⟨fun z => absurd (show (ps_i s (stc p D.length) 0).toInt = (7 : Int) from xeq z) (by omega), fun _ => ?_⟩
    refine ⟨fun z => absurd (show (ps_i s (stc p D.length) 0).toInt = (8 : Int) from xeq z) (by omega), fun _ => ?_⟩
    refine ⟨fun z => absurd (show (ps_i s (stc p D.length) 0).toInt = (9 : Int) from xeq z) (by omega), fun _ => ?_⟩
    refine ⟨fun z => absurd (show (ps_i s (stc p D.length) 0).toInt = (10 : Int) from xeq z) (by omega), fun _ => ?_⟩
    refine ⟨fun z => absurd (show (ps_i s (stc p D.length) 0).toInt = (11 : Int) from xeq z) (by omega), fun _ => ?_⟩
    refine ⟨fun z => absurd (show (ps_i s (stc p D.length) 0).toInt = (12 : Int) from xeq z) (by omega), fun _ => ?_⟩
    refine ⟨fun z => absurd (show (ps_i s (stc p D.length) 0).toInt = (13 : Int) from xeq z) (by omega), fun _ => ?_⟩
    refine ⟨fun z => absurd (show (ps_i s (stc p D.length) 0).toInt = (14 : Int) from xeq z) (by omega), fun _ => ?_⟩
    refine ⟨fun z => absurd (show (ps_i s (stc p D.length) 0).toInt = (15 : Int) from xeq z) (by omega), fun _ => ?_⟩
    refine ⟨fun _ => ?_, fun z => absurd (show (ps_i s (stc p D.length) 0).toInt = (16 : Int) from er) (xne z)⟩
    exact fs_44_r16 hp hi X hD hG B (hpr.1 (of_decide_eq_true rfl)) k
  · have er : (ps_i s (stc p D.length) 0).toInt = (17 : Int) := t0
    have p1 : n1 < D.length := hpr.1 (of_decide_eq_true rfl)
    refine pl_42_0 (fs_37 (j := 0) (i := n1) hp (stc_is hp hi) hl.2.1 rfl (by decide) (t1 (of_decide_eq_true rfl)) (by omega) (pl_nk_i (fun _ => pl_nk_i (fun _ => ?_))))
    rw [(stc_c hp (i := n1) (by omega)).2.2.2.1]
    refine ⟨fun z => absurd (show (ps_i s (stc p D.length) 0).toInt = (6 : Int) from xeq z) (by omega), fun _ => ?_⟩
    refine ⟨fun z => absurd (show (ps_i s (stc p D.length) 0).toInt = (7 : Int) from xeq z) (by omega), fun _ => ?_⟩
    refine ⟨fun z => absurd (show (ps_i s (stc p D.length) 0).toInt = (8 : Int) from xeq z) (by omega), fun _ => ?_⟩
    refine ⟨fun z => absurd (show (ps_i s (stc p D.length) 0).toInt = (9 : Int) from xeq z) (by omega), fun _ => ?_⟩
    refine ⟨fun z => absurd (show (ps_i s (stc p D.length) 0).toInt = (10 : Int) from xeq z) (by omega), fun _ => ?_⟩
    refine ⟨fun z => absurd (show (ps_i s (stc p D.length) 0).toInt = (11 : Int) from xeq z) (by omega), fun _ => ?_⟩
    refine ⟨fun z => absurd (show (ps_i s (stc p D.length) 0).toInt = (12 : Int) from xeq z) (by omega), fun _ => ?_⟩
    refine ⟨fun z => absurd (show (ps_i s (stc p D.length) 0).toInt = (13 : Int) from xeq z) (by omega), fun _ => ?_⟩
    refine ⟨fun z => absurd (show (ps_i s (stc p D.length) 0).toInt = (14 : Int) from xeq z) (by omega), fun _ => ?_⟩
    refine ⟨fun z => absurd (show (ps_i s (stc p D.length) 0).toInt = (15 : Int) from xeq z) (by omega), fun _ => ?_⟩
    refine ⟨fun z => absurd (show (ps_i s (stc p D.length) 0).toInt = (16 : Int) from xeq z) (by omega), fun _ => ?_⟩
    refine ⟨fun _ => ?_, fun z => absurd (show (ps_i s (stc p D.length) 0).toInt = (17 : Int) from er) (xne z)⟩
    exact fs_44_r17 hp hi X hD hG B (hpr.1 (of_decide_eq_true rfl)) k
  · have er : (ps_i s (stc p D.length) 0).toInt = (18 : Int) := t0
    have p1 : n1 < D.length := hpr.1 (of_decide_eq_true rfl)
    have p2 : n2 < D.length := hpr.2.1 (of_decide_eq_true rfl)
    refine pl_42_0 (fs_37 (j := 0) (i := n1) hp (stc_is hp hi) hl.2.1 rfl (by decide) (t1 (of_decide_eq_true rfl)) (by omega) (pl_nk_i (fun _ => pl_nk_i (fun _ => ?_))))
    rw [(stc_c hp (i := n1) (by omega)).2.2.2.1]
    refine ⟨fun z => absurd (show (ps_i s (stc p D.length) 0).toInt = (6 : Int) from xeq z) (by omega), fun _ => ?_⟩
    refine ⟨fun z => absurd (show (ps_i s (stc p D.length) 0).toInt = (7 : Int) from xeq z) (by omega), fun _ => ?_⟩
    refine ⟨fun z => absurd (show (ps_i s (stc p D.length) 0).toInt = (8 : Int) from xeq z) (by omega), fun _ => ?_⟩
    refine ⟨fun z => absurd (show (ps_i s (stc p D.length) 0).toInt = (9 : Int) from xeq z) (by omega), fun _ => ?_⟩
    refine ⟨fun z => absurd (show (ps_i s (stc p D.length) 0).toInt = (10 : Int) from xeq z) (by omega), fun _ => ?_⟩
    refine ⟨fun z => absurd (show (ps_i s (stc p D.length) 0).toInt = (11 : Int) from xeq z) (by omega), fun _ => ?_⟩
    refine ⟨fun z => absurd (show (ps_i s (stc p D.length) 0).toInt = (12 : Int) from xeq z) (by omega), fun _ => ?_⟩
    refine ⟨fun z => absurd (show (ps_i s (stc p D.length) 0).toInt = (13 : Int) from xeq z) (by omega), fun _ => ?_⟩
    refine ⟨fun z => absurd (show (ps_i s (stc p D.length) 0).toInt = (14 : Int) from xeq z) (by omega), fun _ => ?_⟩
    refine ⟨fun z => absurd (show (ps_i s (stc p D.length) 0).toInt = (15 : Int) from xeq z) (by omega), fun _ => ?_⟩
    refine ⟨fun z => absurd (show (ps_i s (stc p D.length) 0).toInt = (16 : Int) from xeq z) (by omega), fun _ => ?_⟩
    refine ⟨fun z => absurd (show (ps_i s (stc p D.length) 0).toInt = (17 : Int) from xeq z) (by omega), fun _ => ?_⟩
    refine ⟨fun _ => ?_, fun z => absurd (show (ps_i s (stc p D.length) 0).toInt = (18 : Int) from er) (xne z)⟩
    exact fs_46_r18 hp hi X hD hG B (hpr.1 (of_decide_eq_true rfl)) (hpr.2.1 (of_decide_eq_true rfl)) (hpr.2.2 (of_decide_eq_true rfl)) k
  · have er : (ps_i s (stc p D.length) 0).toInt = (19 : Int) := t0
    have p1 : n1 < D.length := hpr.1 (of_decide_eq_true rfl)
    have p2 : n2 < D.length := hpr.2.1 (of_decide_eq_true rfl)
    refine pl_42_0 (fs_37 (j := 0) (i := n1) hp (stc_is hp hi) hl.2.1 rfl (by decide) (t1 (of_decide_eq_true rfl)) (by omega) (pl_nk_i (fun _ => pl_nk_i (fun _ => ?_))))
    rw [(stc_c hp (i := n1) (by omega)).2.2.2.1]
    refine ⟨fun z => absurd (show (ps_i s (stc p D.length) 0).toInt = (6 : Int) from xeq z) (by omega), fun _ => ?_⟩
    refine ⟨fun z => absurd (show (ps_i s (stc p D.length) 0).toInt = (7 : Int) from xeq z) (by omega), fun _ => ?_⟩
    refine ⟨fun z => absurd (show (ps_i s (stc p D.length) 0).toInt = (8 : Int) from xeq z) (by omega), fun _ => ?_⟩
    refine ⟨fun z => absurd (show (ps_i s (stc p D.length) 0).toInt = (9 : Int) from xeq z) (by omega), fun _ => ?_⟩
    refine ⟨fun z => absurd (show (ps_i s (stc p D.length) 0).toInt = (10 : Int) from xeq z) (by omega), fun _ => ?_⟩
    refine ⟨fun z => absurd (show (ps_i s (stc p D.length) 0).toInt = (11 : Int) from xeq z) (by omega), fun _ => ?_⟩
    refine ⟨fun z => absurd (show (ps_i s (stc p D.length) 0).toInt = (12 : Int) from xeq z) (by omega), fun _ => ?_⟩
    refine ⟨fun z => absurd (show (ps_i s (stc p D.length) 0).toInt = (13 : Int) from xeq z) (by omega), fun _ => ?_⟩
    refine ⟨fun z => absurd (show (ps_i s (stc p D.length) 0).toInt = (14 : Int) from xeq z) (by omega), fun _ => ?_⟩
    refine ⟨fun z => absurd (show (ps_i s (stc p D.length) 0).toInt = (15 : Int) from xeq z) (by omega), fun _ => ?_⟩
    refine ⟨fun z => absurd (show (ps_i s (stc p D.length) 0).toInt = (16 : Int) from xeq z) (by omega), fun _ => ?_⟩
    refine ⟨fun z => absurd (show (ps_i s (stc p D.length) 0).toInt = (17 : Int) from xeq z) (by omega), fun _ => ?_⟩
    refine ⟨fun z => absurd (show (ps_i s (stc p D.length) 0).toInt = (18 : Int) from xeq z) (by omega), fun _ => ?_⟩
    refine ⟨fun _ => ?_, fun z => absurd (show (ps_i s (stc p D.length) 0).toInt = (19 : Int) from er) (xne z)⟩
    refine fs_37 (j := 1) (i := n2) hp (stc_is hp hi) hl.2.1 rfl (by decide) (t2 (of_decide_eq_true rfl)) (by omega) (pl_nk_i (fun _ => ?_))
    rw [(stc_c hp (i := n2) (by omega)).2.2.2.1]
    exact fs_47_r19 hp hi X hD hG B (hpr.1 (of_decide_eq_true rfl)) (hpr.2.1 (of_decide_eq_true rfl)) k
  · have er : (ps_i s (stc p D.length) 0).toInt = (20 : Int) := t0
    have p1 : n1 < D.length := hpr.1 (of_decide_eq_true rfl)
    refine pl_42_0 (fs_37 (j := 0) (i := n1) hp (stc_is hp hi) hl.2.1 rfl (by decide) (t1 (of_decide_eq_true rfl)) (by omega) (pl_nk_i (fun _ => pl_nk_i (fun _ => ?_))))
    rw [(stc_c hp (i := n1) (by omega)).2.2.2.1]
    refine ⟨fun z => absurd (show (ps_i s (stc p D.length) 0).toInt = (6 : Int) from xeq z) (by omega), fun _ => ?_⟩
    refine ⟨fun z => absurd (show (ps_i s (stc p D.length) 0).toInt = (7 : Int) from xeq z) (by omega), fun _ => ?_⟩
    refine ⟨fun z => absurd (show (ps_i s (stc p D.length) 0).toInt = (8 : Int) from xeq z) (by omega), fun _ => ?_⟩
    refine ⟨fun z => absurd (show (ps_i s (stc p D.length) 0).toInt = (9 : Int) from xeq z) (by omega), fun _ => ?_⟩
    refine ⟨fun z => absurd (show (ps_i s (stc p D.length) 0).toInt = (10 : Int) from xeq z) (by omega), fun _ => ?_⟩
    refine ⟨fun z => absurd (show (ps_i s (stc p D.length) 0).toInt = (11 : Int) from xeq z) (by omega), fun _ => ?_⟩
    refine ⟨fun z => absurd (show (ps_i s (stc p D.length) 0).toInt = (12 : Int) from xeq z) (by omega), fun _ => ?_⟩
    refine ⟨fun z => absurd (show (ps_i s (stc p D.length) 0).toInt = (13 : Int) from xeq z) (by omega), fun _ => ?_⟩
    refine ⟨fun z => absurd (show (ps_i s (stc p D.length) 0).toInt = (14 : Int) from xeq z) (by omega), fun _ => ?_⟩
    refine ⟨fun z => absurd (show (ps_i s (stc p D.length) 0).toInt = (15 : Int) from xeq z) (by omega), fun _ => ?_⟩
    refine ⟨fun z => absurd (show (ps_i s (stc p D.length) 0).toInt = (16 : Int) from xeq z) (by omega), fun _ => ?_⟩
    refine ⟨fun z => absurd (show (ps_i s (stc p D.length) 0).toInt = (17 : Int) from xeq z) (by omega), fun _ => ?_⟩
    refine ⟨fun z => absurd (show (ps_i s (stc p D.length) 0).toInt = (18 : Int) from xeq z) (by omega), fun _ => ?_⟩
    refine ⟨fun z => absurd (show (ps_i s (stc p D.length) 0).toInt = (19 : Int) from xeq z) (by omega), fun _ => ?_⟩
    refine ⟨fun _ => ?_, fun z => absurd (show (ps_i s (stc p D.length) 0).toInt = (20 : Int) from er) (xne z)⟩
    exact fs_44_r20 hp hi X hD hG B (hpr.1 (of_decide_eq_true rfl)) k
  · have er : (ps_i s (stc p D.length) 0).toInt = (21 : Int) := t0
    have p1 : n1 < D.length := hpr.1 (of_decide_eq_true rfl)
    refine pl_42_0 (fs_37 (j := 0) (i := n1) hp (stc_is hp hi) hl.2.1 rfl (by decide) (t1 (of_decide_eq_true rfl)) (by omega) (pl_nk_i (fun _ => pl_nk_i (fun _ => ?_))))
    rw [(stc_c hp (i := n1) (by omega)).2.2.2.1]
    refine ⟨fun z => absurd (show (ps_i s (stc p D.length) 0).toInt = (6 : Int) from xeq z) (by omega), fun _ => ?_⟩
    refine ⟨fun z => absurd (show (ps_i s (stc p D.length) 0).toInt = (7 : Int) from xeq z) (by omega), fun _ => ?_⟩
    refine ⟨fun z => absurd (show (ps_i s (stc p D.length) 0).toInt = (8 : Int) from xeq z) (by omega), fun _ => ?_⟩
    refine ⟨fun z => absurd (show (ps_i s (stc p D.length) 0).toInt = (9 : Int) from xeq z) (by omega), fun _ => ?_⟩
    refine ⟨fun z => absurd (show (ps_i s (stc p D.length) 0).toInt = (10 : Int) from xeq z) (by omega), fun _ => ?_⟩
    refine ⟨fun z => absurd (show (ps_i s (stc p D.length) 0).toInt = (11 : Int) from xeq z) (by omega), fun _ => ?_⟩
    refine ⟨fun z => absurd (show (ps_i s (stc p D.length) 0).toInt = (12 : Int) from xeq z) (by omega), fun _ => ?_⟩
    refine ⟨fun z => absurd (show (ps_i s (stc p D.length) 0).toInt = (13 : Int) from xeq z) (by omega), fun _ => ?_⟩
    refine ⟨fun z => absurd (show (ps_i s (stc p D.length) 0).toInt = (14 : Int) from xeq z) (by omega), fun _ => ?_⟩
    refine ⟨fun z => absurd (show (ps_i s (stc p D.length) 0).toInt = (15 : Int) from xeq z) (by omega), fun _ => ?_⟩
    refine ⟨fun z => absurd (show (ps_i s (stc p D.length) 0).toInt = (16 : Int) from xeq z) (by omega), fun _ => ?_⟩
    refine ⟨fun z => absurd (show (ps_i s (stc p D.length) 0).toInt = (17 : Int) from xeq z) (by omega), fun _ => ?_⟩
    refine ⟨fun z => absurd (show (ps_i s (stc p D.length) 0).toInt = (18 : Int) from xeq z) (by omega), fun _ => ?_⟩
    refine ⟨fun z => absurd (show (ps_i s (stc p D.length) 0).toInt = (19 : Int) from xeq z) (by omega), fun _ => ?_⟩
    refine ⟨fun z => absurd (show (ps_i s (stc p D.length) 0).toInt = (20 : Int) from xeq z) (by omega), fun _ => ?_⟩
    refine ⟨fun _ => ?_, fun z => absurd (show (ps_i s (stc p D.length) 0).toInt = (21 : Int) from er) (xne z)⟩
    exact fs_49_r21 hp hi X hD hG B (hpr.1 (of_decide_eq_true rfl)) k
  · have er : (ps_i s (stc p D.length) 0).toInt = (22 : Int) := t0
    have p1 : n1 < D.length := hpr.1 (of_decide_eq_true rfl)
    refine pl_42_0 (fs_37 (j := 0) (i := n1) hp (stc_is hp hi) hl.2.1 rfl (by decide) (t1 (of_decide_eq_true rfl)) (by omega) (pl_nk_i (fun _ => pl_nk_i (fun _ => ?_))))
    rw [(stc_c hp (i := n1) (by omega)).2.2.2.1]
    refine ⟨fun z => absurd (show (ps_i s (stc p D.length) 0).toInt = (6 : Int) from xeq z) (by omega), fun _ => ?_⟩
    refine ⟨fun z => absurd (show (ps_i s (stc p D.length) 0).toInt = (7 : Int) from xeq z) (by omega), fun _ => ?_⟩
    refine ⟨fun z => absurd (show (ps_i s (stc p D.length) 0).toInt = (8 : Int) from xeq z) (by omega), fun _ => ?_⟩
    refine ⟨fun z => absurd (show (ps_i s (stc p D.length) 0).toInt = (9 : Int) from xeq z) (by omega), fun _ => ?_⟩
    refine ⟨fun z => absurd (show (ps_i s (stc p D.length) 0).toInt = (10 : Int) from xeq z) (by omega), fun _ => ?_⟩
    refine ⟨fun z => absurd (show (ps_i s (stc p D.length) 0).toInt = (11 : Int) from xeq z) (by omega), fun _ => ?_⟩
    refine ⟨fun z => absurd (show (ps_i s (stc p D.length) 0).toInt = (12 : Int) from xeq z) (by omega), fun _ => ?_⟩
    refine ⟨fun z => absurd (show (ps_i s (stc p D.length) 0).toInt = (13 : Int) from xeq z) (by omega), fun _ => ?_⟩
    refine ⟨fun z => absurd (show (ps_i s (stc p D.length) 0).toInt = (14 : Int) from xeq z) (by omega), fun _ => ?_⟩
    refine ⟨fun z => absurd (show (ps_i s (stc p D.length) 0).toInt = (15 : Int) from xeq z) (by omega), fun _ => ?_⟩
    refine ⟨fun z => absurd (show (ps_i s (stc p D.length) 0).toInt = (16 : Int) from xeq z) (by omega), fun _ => ?_⟩
    refine ⟨fun z => absurd (show (ps_i s (stc p D.length) 0).toInt = (17 : Int) from xeq z) (by omega), fun _ => ?_⟩
    refine ⟨fun z => absurd (show (ps_i s (stc p D.length) 0).toInt = (18 : Int) from xeq z) (by omega), fun _ => ?_⟩
    refine ⟨fun z => absurd (show (ps_i s (stc p D.length) 0).toInt = (19 : Int) from xeq z) (by omega), fun _ => ?_⟩
    refine ⟨fun z => absurd (show (ps_i s (stc p D.length) 0).toInt = (20 : Int) from xeq z) (by omega), fun _ => ?_⟩
    refine ⟨fun z => absurd (show (ps_i s (stc p D.length) 0).toInt = (21 : Int) from xeq z) (by omega), fun _ => ?_⟩
    refine ⟨fun _ => ?_, fun z => absurd (show (ps_i s (stc p D.length) 0).toInt = (22 : Int) from er) (xne z)⟩
    exact fs_50_r22 hp hi X hD hG B (hpr.1 (of_decide_eq_true rfl)) k
  · have er : (ps_i s (stc p D.length) 0).toInt = (23 : Int) := t0
    have p1 : n1 < D.length := hpr.1 (of_decide_eq_true rfl)
    refine pl_42_0 (fs_37 (j := 0) (i := n1) hp (stc_is hp hi) hl.2.1 rfl (by decide) (t1 (of_decide_eq_true rfl)) (by omega) (pl_nk_i (fun _ => pl_nk_i (fun _ => ?_))))
    rw [(stc_c hp (i := n1) (by omega)).2.2.2.1]
    refine ⟨fun z => absurd (show (ps_i s (stc p D.length) 0).toInt = (6 : Int) from xeq z) (by omega), fun _ => ?_⟩
    refine ⟨fun z => absurd (show (ps_i s (stc p D.length) 0).toInt = (7 : Int) from xeq z) (by omega), fun _ => ?_⟩
    refine ⟨fun z => absurd (show (ps_i s (stc p D.length) 0).toInt = (8 : Int) from xeq z) (by omega), fun _ => ?_⟩
    refine ⟨fun z => absurd (show (ps_i s (stc p D.length) 0).toInt = (9 : Int) from xeq z) (by omega), fun _ => ?_⟩
    refine ⟨fun z => absurd (show (ps_i s (stc p D.length) 0).toInt = (10 : Int) from xeq z) (by omega), fun _ => ?_⟩
    refine ⟨fun z => absurd (show (ps_i s (stc p D.length) 0).toInt = (11 : Int) from xeq z) (by omega), fun _ => ?_⟩
    refine ⟨fun z => absurd (show (ps_i s (stc p D.length) 0).toInt = (12 : Int) from xeq z) (by omega), fun _ => ?_⟩
    refine ⟨fun z => absurd (show (ps_i s (stc p D.length) 0).toInt = (13 : Int) from xeq z) (by omega), fun _ => ?_⟩
    refine ⟨fun z => absurd (show (ps_i s (stc p D.length) 0).toInt = (14 : Int) from xeq z) (by omega), fun _ => ?_⟩
    refine ⟨fun z => absurd (show (ps_i s (stc p D.length) 0).toInt = (15 : Int) from xeq z) (by omega), fun _ => ?_⟩
    refine ⟨fun z => absurd (show (ps_i s (stc p D.length) 0).toInt = (16 : Int) from xeq z) (by omega), fun _ => ?_⟩
    refine ⟨fun z => absurd (show (ps_i s (stc p D.length) 0).toInt = (17 : Int) from xeq z) (by omega), fun _ => ?_⟩
    refine ⟨fun z => absurd (show (ps_i s (stc p D.length) 0).toInt = (18 : Int) from xeq z) (by omega), fun _ => ?_⟩
    refine ⟨fun z => absurd (show (ps_i s (stc p D.length) 0).toInt = (19 : Int) from xeq z) (by omega), fun _ => ?_⟩
    refine ⟨fun z => absurd (show (ps_i s (stc p D.length) 0).toInt = (20 : Int) from xeq z) (by omega), fun _ => ?_⟩
    refine ⟨fun z => absurd (show (ps_i s (stc p D.length) 0).toInt = (21 : Int) from xeq z) (by omega), fun _ => ?_⟩
    refine ⟨fun z => absurd (show (ps_i s (stc p D.length) 0).toInt = (22 : Int) from xeq z) (by omega), fun _ => ?_⟩
    refine ⟨fun _ => ?_, fun z => absurd (show (ps_i s (stc p D.length) 0).toInt = (23 : Int) from er) (xne z)⟩
    exact fs_53_r23 hp hi X hD hG B (hpr.1 (of_decide_eq_true rfl)) k
  · have er : (ps_i s (stc p D.length) 0).toInt = (24 : Int) := t0
    have p1 : n1 < D.length := hpr.1 (of_decide_eq_true rfl)
    have p2 : n2 < D.length := hpr.2.1 (of_decide_eq_true rfl)
    refine pl_42_0 (fs_37 (j := 0) (i := n1) hp (stc_is hp hi) hl.2.1 rfl (by decide) (t1 (of_decide_eq_true rfl)) (by omega) (pl_nk_i (fun _ => pl_nk_i (fun _ => ?_))))
    rw [(stc_c hp (i := n1) (by omega)).2.2.2.1]
    refine ⟨fun z => absurd (show (ps_i s (stc p D.length) 0).toInt = (6 : Int) from xeq z) (by omega), fun _ => ?_⟩
    refine ⟨fun z => absurd (show (ps_i s (stc p D.length) 0).toInt = (7 : Int) from xeq z) (by omega), fun _ => ?_⟩
    refine ⟨fun z => absurd (show (ps_i s (stc p D.length) 0).toInt = (8 : Int) from xeq z) (by omega), fun _ => ?_⟩
    refine ⟨fun z => absurd (show (ps_i s (stc p D.length) 0).toInt = (9 : Int) from xeq z) (by omega), fun _ => ?_⟩
    refine ⟨fun z => absurd (show (ps_i s (stc p D.length) 0).toInt = (10 : Int) from xeq z) (by omega), fun _ => ?_⟩
    refine ⟨fun z => absurd (show (ps_i s (stc p D.length) 0).toInt = (11 : Int) from xeq z) (by omega), fun _ => ?_⟩
    refine ⟨fun z => absurd (show (ps_i s (stc p D.length) 0).toInt = (12 : Int) from xeq z) (by omega), fun _ => ?_⟩
    refine ⟨fun z => absurd (show (ps_i s (stc p D.length) 0).toInt = (13 : Int) from xeq z) (by omega), fun _ => ?_⟩
    refine ⟨fun z => absurd (show (ps_i s (stc p D.length) 0).toInt = (14 : Int) from xeq z) (by omega), fun _ => ?_⟩
    refine ⟨fun z => absurd (show (ps_i s (stc p D.length) 0).toInt = (15 : Int) from xeq z) (by omega), fun _ => ?_⟩
    refine ⟨fun z => absurd (show (ps_i s (stc p D.length) 0).toInt = (16 : Int) from xeq z) (by omega), fun _ => ?_⟩
    refine ⟨fun z => absurd (show (ps_i s (stc p D.length) 0).toInt = (17 : Int) from xeq z) (by omega), fun _ => ?_⟩
    refine ⟨fun z => absurd (show (ps_i s (stc p D.length) 0).toInt = (18 : Int) from xeq z) (by omega), fun _ => ?_⟩
    refine ⟨fun z => absurd (show (ps_i s (stc p D.length) 0).toInt = (19 : Int) from xeq z) (by omega), fun _ => ?_⟩
    refine ⟨fun z => absurd (show (ps_i s (stc p D.length) 0).toInt = (20 : Int) from xeq z) (by omega), fun _ => ?_⟩
    refine ⟨fun z => absurd (show (ps_i s (stc p D.length) 0).toInt = (21 : Int) from xeq z) (by omega), fun _ => ?_⟩
    refine ⟨fun z => absurd (show (ps_i s (stc p D.length) 0).toInt = (22 : Int) from xeq z) (by omega), fun _ => ?_⟩
    refine ⟨fun z => absurd (show (ps_i s (stc p D.length) 0).toInt = (23 : Int) from xeq z) (by omega), fun _ => ?_⟩
    refine ⟨fun _ => ?_, fun z => absurd (show (ps_i s (stc p D.length) 0).toInt = (24 : Int) from er) (xne z)⟩
    refine fs_37 (j := 1) (i := n2) hp (stc_is hp hi) hl.2.1 rfl (by decide) (t2 (of_decide_eq_true rfl)) (by omega) ?_
    exact fs_54_r24 hp hi X hD hG B (hpr.1 (of_decide_eq_true rfl)) (hpr.2.1 (of_decide_eq_true rfl)) k
  · have er : (ps_i s (stc p D.length) 0).toInt = (25 : Int) := t0
    have p1 : n1 < D.length := hpr.1 (of_decide_eq_true rfl)
    have p2 : n2 < D.length := hpr.2.1 (of_decide_eq_true rfl)
    refine pl_42_0 (fs_37 (j := 0) (i := n1) hp (stc_is hp hi) hl.2.1 rfl (by decide) (t1 (of_decide_eq_true rfl)) (by omega) (pl_nk_i (fun _ => pl_nk_i (fun _ => ?_))))
    rw [(stc_c hp (i := n1) (by omega)).2.2.2.1]
    refine ⟨fun z => absurd (show (ps_i s (stc p D.length) 0).toInt = (6 : Int) from xeq z) (by omega), fun _ => ?_⟩
    refine ⟨fun z => absurd (show (ps_i s (stc p D.length) 0).toInt = (7 : Int) from xeq z) (by omega), fun _ => ?_⟩
    refine ⟨fun z => absurd (show (ps_i s (stc p D.length) 0).toInt = (8 : Int) from xeq z) (by omega), fun _ => ?_⟩
    refine ⟨fun z => absurd (show (ps_i s (stc p D.length) 0).toInt = (9 : Int) from xeq z) (by omega), fun _ => ?_⟩
    refine ⟨fun z => absurd (show (ps_i s (stc p D.length) 0).toInt = (10 : Int) from xeq z) (by omega), fun _ => ?_⟩
    refine ⟨fun z => absurd (show (ps_i s (stc p D.length) 0).toInt = (11 : Int) from xeq z) (by omega), fun _ => ?_⟩
    refine ⟨fun z => absurd (show (ps_i s (stc p D.length) 0).toInt = (12 : Int) from xeq z) (by omega), fun _ => ?_⟩
    refine ⟨fun z => absurd (show (ps_i s (stc p D.length) 0).toInt = (13 : Int) from xeq z) (by omega), fun _ => ?_⟩
    refine ⟨fun z => absurd (show (ps_i s (stc p D.length) 0).toInt = (14 : Int) from xeq z) (by omega), fun _ => ?_⟩
    refine ⟨fun z => absurd (show (ps_i s (stc p D.length) 0).toInt = (15 : Int) from xeq z) (by omega), fun _ => ?_⟩
    refine ⟨fun z => absurd (show (ps_i s (stc p D.length) 0).toInt = (16 : Int) from xeq z) (by omega), fun _ => ?_⟩
    refine ⟨fun z => absurd (show (ps_i s (stc p D.length) 0).toInt = (17 : Int) from xeq z) (by omega), fun _ => ?_⟩
    refine ⟨fun z => absurd (show (ps_i s (stc p D.length) 0).toInt = (18 : Int) from xeq z) (by omega), fun _ => ?_⟩
    refine ⟨fun z => absurd (show (ps_i s (stc p D.length) 0).toInt = (19 : Int) from xeq z) (by omega), fun _ => ?_⟩
    refine ⟨fun z => absurd (show (ps_i s (stc p D.length) 0).toInt = (20 : Int) from xeq z) (by omega), fun _ => ?_⟩
    refine ⟨fun z => absurd (show (ps_i s (stc p D.length) 0).toInt = (21 : Int) from xeq z) (by omega), fun _ => ?_⟩
    refine ⟨fun z => absurd (show (ps_i s (stc p D.length) 0).toInt = (22 : Int) from xeq z) (by omega), fun _ => ?_⟩
    refine ⟨fun z => absurd (show (ps_i s (stc p D.length) 0).toInt = (23 : Int) from xeq z) (by omega), fun _ => ?_⟩
    refine ⟨fun z => absurd (show (ps_i s (stc p D.length) 0).toInt = (24 : Int) from xeq z) (by omega), fun _ => ?_⟩
    refine ⟨fun _ => ?_, fun z => absurd (show (ps_i s (stc p D.length) 0).toInt = (25 : Int) from er) (xne z)⟩
    refine fs_37 (j := 1) (i := n2) hp (stc_is hp hi) hl.2.1 rfl (by decide) (t2 (of_decide_eq_true rfl)) (by omega) (pl_nk_i (fun _ => ?_))
    rw [(stc_c hp (i := n2) (by omega)).2.2.2.1]
    exact fs_55_r25 hp hi X hD hG B (hpr.1 (of_decide_eq_true rfl)) (hpr.2.1 (of_decide_eq_true rfl)) k
  · have er : (ps_i s (stc p D.length) 0).toInt = (26 : Int) := t0
    have p1 : n1 < D.length := hpr.1 (of_decide_eq_true rfl)
    refine pl_42_0 (fs_37 (j := 0) (i := n1) hp (stc_is hp hi) hl.2.1 rfl (by decide) (t1 (of_decide_eq_true rfl)) (by omega) (pl_nk_i (fun _ => pl_nk_i (fun _ => ?_))))
    rw [(stc_c hp (i := n1) (by omega)).2.2.2.1]
    refine ⟨fun z => absurd (show (ps_i s (stc p D.length) 0).toInt = (6 : Int) from xeq z) (by omega), fun _ => ?_⟩
    refine ⟨fun z => absurd (show (ps_i s (stc p D.length) 0).toInt = (7 : Int) from xeq z) (by omega), fun _ => ?_⟩
    refine ⟨fun z => absurd (show (ps_i s (stc p D.length) 0).toInt = (8 : Int) from xeq z) (by omega), fun _ => ?_⟩
    refine ⟨fun z => absurd (show (ps_i s (stc p D.length) 0).toInt = (9 : Int) from xeq z) (by omega), fun _ => ?_⟩
    refine ⟨fun z => absurd (show (ps_i s (stc p D.length) 0).toInt = (10 : Int) from xeq z) (by omega), fun _ => ?_⟩
    refine ⟨fun z => absurd (show (ps_i s (stc p D.length) 0).toInt = (11 : Int) from xeq z) (by omega), fun _ => ?_⟩
    refine ⟨fun z => absurd (show (ps_i s (stc p D.length) 0).toInt = (12 : Int) from xeq z) (by omega), fun _ => ?_⟩
    refine ⟨fun z => absurd (show (ps_i s (stc p D.length) 0).toInt = (13 : Int) from xeq z) (by omega), fun _ => ?_⟩
    refine ⟨fun z => absurd (show (ps_i s (stc p D.length) 0).toInt = (14 : Int) from xeq z) (by omega), fun _ => ?_⟩
    refine ⟨fun z => absurd (show (ps_i s (stc p D.length) 0).toInt = (15 : Int) from xeq z) (by omega), fun _ => ?_⟩
    refine ⟨fun z => absurd (show (ps_i s (stc p D.length) 0).toInt = (16 : Int) from xeq z) (by omega), fun _ => ?_⟩
    refine ⟨fun z => absurd (show (ps_i s (stc p D.length) 0).toInt = (17 : Int) from xeq z) (by omega), fun _ => ?_⟩
    refine ⟨fun z => absurd (show (ps_i s (stc p D.length) 0).toInt = (18 : Int) from xeq z) (by omega), fun _ => ?_⟩
    refine ⟨fun z => absurd (show (ps_i s (stc p D.length) 0).toInt = (19 : Int) from xeq z) (by omega), fun _ => ?_⟩
    refine ⟨fun z => absurd (show (ps_i s (stc p D.length) 0).toInt = (20 : Int) from xeq z) (by omega), fun _ => ?_⟩
    refine ⟨fun z => absurd (show (ps_i s (stc p D.length) 0).toInt = (21 : Int) from xeq z) (by omega), fun _ => ?_⟩
    refine ⟨fun z => absurd (show (ps_i s (stc p D.length) 0).toInt = (22 : Int) from xeq z) (by omega), fun _ => ?_⟩
    refine ⟨fun z => absurd (show (ps_i s (stc p D.length) 0).toInt = (23 : Int) from xeq z) (by omega), fun _ => ?_⟩
    refine ⟨fun z => absurd (show (ps_i s (stc p D.length) 0).toInt = (24 : Int) from xeq z) (by omega), fun _ => ?_⟩
    refine ⟨fun z => absurd (show (ps_i s (stc p D.length) 0).toInt = (25 : Int) from xeq z) (by omega), fun _ => ?_⟩
    exact fs_48_r26 hp hi X hD hG B (hpr.1 (of_decide_eq_true rfl)) k
  · have er : (ps_i s (stc p D.length) 0).toInt = (27 : Int) := t0
    have p1 : n1 < D.length := hpr.1 (of_decide_eq_true rfl)
    refine pl_42_0 (fs_37 (j := 0) (i := n1) hp (stc_is hp hi) hl.2.1 rfl (by decide) (t1 (of_decide_eq_true rfl)) (by omega) (pl_nk_i (fun _ => pl_nk_i (fun _ => ?_))))
    rw [(stc_c hp (i := n1) (by omega)).2.2.2.1]
    refine ⟨fun z => absurd (show (ps_i s (stc p D.length) 0).toInt = (6 : Int) from xeq z) (by omega), fun _ => ?_⟩
    refine ⟨fun z => absurd (show (ps_i s (stc p D.length) 0).toInt = (7 : Int) from xeq z) (by omega), fun _ => ?_⟩
    refine ⟨fun z => absurd (show (ps_i s (stc p D.length) 0).toInt = (8 : Int) from xeq z) (by omega), fun _ => ?_⟩
    refine ⟨fun z => absurd (show (ps_i s (stc p D.length) 0).toInt = (9 : Int) from xeq z) (by omega), fun _ => ?_⟩
    refine ⟨fun z => absurd (show (ps_i s (stc p D.length) 0).toInt = (10 : Int) from xeq z) (by omega), fun _ => ?_⟩
    refine ⟨fun z => absurd (show (ps_i s (stc p D.length) 0).toInt = (11 : Int) from xeq z) (by omega), fun _ => ?_⟩
    refine ⟨fun z => absurd (show (ps_i s (stc p D.length) 0).toInt = (12 : Int) from xeq z) (by omega), fun _ => ?_⟩
    refine ⟨fun z => absurd (show (ps_i s (stc p D.length) 0).toInt = (13 : Int) from xeq z) (by omega), fun _ => ?_⟩
    refine ⟨fun z => absurd (show (ps_i s (stc p D.length) 0).toInt = (14 : Int) from xeq z) (by omega), fun _ => ?_⟩
    refine ⟨fun z => absurd (show (ps_i s (stc p D.length) 0).toInt = (15 : Int) from xeq z) (by omega), fun _ => ?_⟩
    refine ⟨fun z => absurd (show (ps_i s (stc p D.length) 0).toInt = (16 : Int) from xeq z) (by omega), fun _ => ?_⟩
    refine ⟨fun z => absurd (show (ps_i s (stc p D.length) 0).toInt = (17 : Int) from xeq z) (by omega), fun _ => ?_⟩
    refine ⟨fun z => absurd (show (ps_i s (stc p D.length) 0).toInt = (18 : Int) from xeq z) (by omega), fun _ => ?_⟩
    refine ⟨fun z => absurd (show (ps_i s (stc p D.length) 0).toInt = (19 : Int) from xeq z) (by omega), fun _ => ?_⟩
    refine ⟨fun z => absurd (show (ps_i s (stc p D.length) 0).toInt = (20 : Int) from xeq z) (by omega), fun _ => ?_⟩
    refine ⟨fun z => absurd (show (ps_i s (stc p D.length) 0).toInt = (21 : Int) from xeq z) (by omega), fun _ => ?_⟩
    refine ⟨fun z => absurd (show (ps_i s (stc p D.length) 0).toInt = (22 : Int) from xeq z) (by omega), fun _ => ?_⟩
    refine ⟨fun z => absurd (show (ps_i s (stc p D.length) 0).toInt = (23 : Int) from xeq z) (by omega), fun _ => ?_⟩
    refine ⟨fun z => absurd (show (ps_i s (stc p D.length) 0).toInt = (24 : Int) from xeq z) (by omega), fun _ => ?_⟩
    refine ⟨fun z => absurd (show (ps_i s (stc p D.length) 0).toInt = (25 : Int) from xeq z) (by omega), fun _ => ?_⟩
    exact fs_48_r27 hp hi X hD hG B (hpr.1 (of_decide_eq_true rfl)) k

end
