set_option maxRecDepth 100000
/-! the class's side once more: what its calls keep besides: the tape's bytes, the words that stand for themselves, the first ten arities of both theories -/
def yP (m s : ps_S) : Prop := ps_a s 1 = ps_a m 1 ∧ ps_b s 904 = ps_b m 904 ∧ (∀ i, i < 10 → ps_a s 6 i = ps_a m 6 i ∧ ps_a s 30 i = ps_a m 30 i) ∧ (ps_r s 0 2 = 2 ∨ ps_r s 0 2 = 26) ∧ (ps_r s 0 3 = 2 ∨ ps_r s 0 3 = 26)
def yJ (m : ps_S) (t : Int32) (s : ps_S) : Prop := xJ m t s ∧ yP m s
def xOb (r : Nat) : Bool := Nat.blt r 1131 && !Nat.beq r 6 && !Nat.beq r 30 && !Nat.beq r 904
def xO (r : Nat) : Prop := r < 1131 ∧ r ≠ 6 ∧ r ≠ 30 ∧ r ≠ 904
theorem xO_b {r : Nat} (h : xOb r = true) : xO r := by
  unfold xOb at h
  rw [Bool.and_eq_true, Bool.and_eq_true, Bool.and_eq_true] at h
  obtain ⟨⟨⟨h1, h2⟩, h3⟩, h4⟩ := h
  refine ⟨Nat.le_of_ble_eq_true h1, fun e => ?_, fun e => ?_, fun e => ?_⟩
  · subst e; cases h2
  · subst e; cases h3
  · subst e; cases h4
theorem yq_a {r t : Nat} (h : ps_ar r t = true) (h2 : xOb r = true) : ps_ar r t = true ∧ xO r := ⟨h, xO_b h2⟩
def yck (r : Nat) : Bool := match pm_wx r with
  | .inr (c, fs) => Nat.blt 11 c || (List.range fs.length).all (fun q => match fs[q]? with
    | some (.ref x) => !(Nat.beq x 6 || Nat.beq x 30 || Nat.beq x 904) || (Nat.beq c 9 && Nat.beq q 3) || (Nat.beq c 10 && Nat.beq q 0)
    | _ => true)
  | .inl _ => true
def yall (a : Nat) : Nat → Bool
  | 0 => true
  | n + 1 => yck (a + n) && yall a n
theorem yall_ok {a : Nat} : ∀ {n : Nat}, yall a n = true → ∀ r, a ≤ r → r < a + n → yck r = true
  | 0, _, r, h1, h2 => by omega
  | n + 1, h, r, h1, h2 => by
    unfold yall at h
    rw [Bool.and_eq_true] at h
    by_cases e : r = a + n
    · rw [e]; exact h.1
    · exact yall_ok h.2 r h1 (by omega)
set_option maxRecDepth 1000000
theorem yall_0 : yall 0 150 = true := by decide +kernel
theorem yall_150 : yall 150 150 = true := by decide +kernel
theorem yall_300 : yall 300 150 = true := by decide +kernel
theorem yall_450 : yall 450 150 = true := by decide +kernel
theorem yall_600 : yall 600 150 = true := by decide +kernel
theorem yall_750 : yall 750 150 = true := by decide +kernel
theorem yall_900 : yall 900 150 = true := by decide +kernel
theorem yall_1050 : yall 1050 81 = true := by decide +kernel
set_option maxRecDepth 100000
theorem yck_all {r : Nat} (h : r < 1131) : yck r = true := by
  by_cases h150 : r < 150
  · exact yall_ok yall_0 r (by omega) (by omega)
  by_cases h300 : r < 300
  · exact yall_ok yall_150 r (by omega) (by omega)
  by_cases h450 : r < 450
  · exact yall_ok yall_300 r (by omega) (by omega)
  by_cases h600 : r < 600
  · exact yall_ok yall_450 r (by omega) (by omega)
  by_cases h750 : r < 750
  · exact yall_ok yall_600 r (by omega) (by omega)
  by_cases h900 : r < 900
  · exact yall_ok yall_750 r (by omega) (by omega)
  by_cases h1050 : r < 1050
  · exact yall_ok yall_900 r (by omega) (by omega)
  exact yall_ok yall_1050 r (by omega) (by omega)
theorem yex {r c q : Nat} (hc : c < 12) (h9 : ¬ (c = 9 ∧ q = 3)) (h10 : ¬ (c = 10 ∧ q = 0)) (h : ps_is r c = true) : ps_c0 r q ≠ 6 ∧ ps_c0 r q ≠ 30 ∧ ps_c0 r q ≠ 904 := by
  have k1 := yck_all (xis_lt hc h)
  obtain ⟨h1, h2⟩ := ps_is_lt (by omega) h
  unfold ps_K at h2
  unfold yck at k1
  unfold ps_c0
  cases e : pm_wx r with
  | inl a =>
    obtain ⟨t, n, f⟩ := a
    rw [e] at h2
    cases h2
  | inr a =>
    obtain ⟨c', fs⟩ := a
    rw [e] at h2 k1
    cases h2
    dsimp only at k1 ⊢
    rw [pm_blt_f (by omega), Bool.false_or, List.all_eq_true] at k1
    split
    · next x ex =>
      have hq : q < fs.length := by
        have := List.getElem?_eq_some_iff.mp ex
        exact this.1
      have k2 := k1 q (List.mem_range.mpr hq)
      rw [ex] at k2
      dsimp only at k2
      refine ⟨fun z => ?_, fun z => ?_, fun z => ?_⟩ <;>
      · subst z
        rw [Bool.or_eq_true, Bool.or_eq_true, Bool.and_eq_true, Bool.and_eq_true] at k2
        rcases k2 with (k2 | k2) | k2
        · cases k2
        · exact h9 ⟨Nat.eq_of_beq_eq_true k2.1, Nat.eq_of_beq_eq_true k2.2⟩
        · exact h10 ⟨Nat.eq_of_beq_eq_true k2.1, Nat.eq_of_beq_eq_true k2.2⟩
    · exact ⟨by decide, by decide, by decide⟩
theorem yk_0_0 {r : Nat} (h : ps_is r 0 = true) : ps_ar (ps_c0 r 0) 0 = true ∧ xO (ps_c0 r 0) := ⟨(xk_0_0 h).1, (xk_0_0 h).2, yex (c := 0) (by decide) (by decide) (by decide) h⟩
theorem yk_0_1 {r : Nat} (h : ps_is r 0 = true) : ps_ar (ps_c0 r 1) 0 = true ∧ xO (ps_c0 r 1) := ⟨(xk_0_1 h).1, (xk_0_1 h).2, yex (c := 0) (by decide) (by decide) (by decide) h⟩
theorem yk_0_3 {r : Nat} (h : ps_is r 0 = true) : ps_ar (ps_c0 r 3) 0 = true ∧ xO (ps_c0 r 3) := ⟨(xk_0_3 h).1, (xk_0_3 h).2, yex (c := 0) (by decide) (by decide) (by decide) h⟩
theorem yk_0_4 {r : Nat} (h : ps_is r 0 = true) : ps_ar (ps_c0 r 4) 0 = true ∧ xO (ps_c0 r 4) := ⟨(xk_0_4 h).1, (xk_0_4 h).2, yex (c := 0) (by decide) (by decide) (by decide) h⟩
theorem yk_0_7 {r : Nat} (h : ps_is r 0 = true) : ps_ar (ps_c0 r 7) 0 = true ∧ xO (ps_c0 r 7) := ⟨(xk_0_7 h).1, (xk_0_7 h).2, yex (c := 0) (by decide) (by decide) (by decide) h⟩
theorem yk_0_8 {r : Nat} (h : ps_is r 0 = true) : ps_ar (ps_c0 r 8) 0 = true ∧ xO (ps_c0 r 8) := ⟨(xk_0_8 h).1, (xk_0_8 h).2, yex (c := 0) (by decide) (by decide) (by decide) h⟩
theorem yk_0_9 {r : Nat} (h : ps_is r 0 = true) : ps_ar (ps_c0 r 9) 0 = true ∧ xO (ps_c0 r 9) := ⟨(xk_0_9 h).1, (xk_0_9 h).2, yex (c := 0) (by decide) (by decide) (by decide) h⟩
theorem yk_0_12 {r : Nat} (h : ps_is r 0 = true) : ps_ar (ps_c0 r 12) 3 = true ∧ xO (ps_c0 r 12) := ⟨(xk_0_12 h).1, (xk_0_12 h).2, yex (c := 0) (by decide) (by decide) (by decide) h⟩
theorem yk_0_13 {r : Nat} (h : ps_is r 0 = true) : ps_ar (ps_c0 r 13) 3 = true ∧ xO (ps_c0 r 13) := ⟨(xk_0_13 h).1, (xk_0_13 h).2, yex (c := 0) (by decide) (by decide) (by decide) h⟩
theorem yk_1_1 {r : Nat} (h : ps_is r 1 = true) : ps_ar (ps_c0 r 1) 0 = true ∧ xO (ps_c0 r 1) := ⟨(xk_1_1 h).1, (xk_1_1 h).2, yex (c := 1) (by decide) (by decide) (by decide) h⟩
theorem yk_1_3 {r : Nat} (h : ps_is r 1 = true) : ps_ar (ps_c0 r 3) 0 = true ∧ xO (ps_c0 r 3) := ⟨(xk_1_3 h).1, (xk_1_3 h).2, yex (c := 1) (by decide) (by decide) (by decide) h⟩
theorem yk_1_5 {r : Nat} (h : ps_is r 1 = true) : ps_ar (ps_c0 r 5) 0 = true ∧ xO (ps_c0 r 5) := ⟨(xk_1_5 h).1, (xk_1_5 h).2, yex (c := 1) (by decide) (by decide) (by decide) h⟩
theorem yk_3_1 {r : Nat} (h : ps_is r 3 = true) : ps_ar (ps_c0 r 1) 3 = true ∧ xO (ps_c0 r 1) := ⟨(xk_3_1 h).1, (xk_3_1 h).2, yex (c := 3) (by decide) (by decide) (by decide) h⟩
theorem yk_3_3 {r : Nat} (h : ps_is r 3 = true) : ps_ar (ps_c0 r 3) 3 = true ∧ xO (ps_c0 r 3) := ⟨(xk_3_3 h).1, (xk_3_3 h).2, yex (c := 3) (by decide) (by decide) (by decide) h⟩
theorem yk_4_4 {r : Nat} (h : ps_is r 4 = true) : ps_ar (ps_c0 r 4) 0 = true ∧ xO (ps_c0 r 4) := ⟨(xk_4_4 h).1, (xk_4_4 h).2, yex (c := 4) (by decide) (by decide) (by decide) h⟩
theorem yk_4_5 {r : Nat} (h : ps_is r 4 = true) : ps_ar (ps_c0 r 5) 0 = true ∧ xO (ps_c0 r 5) := ⟨(xk_4_5 h).1, (xk_4_5 h).2, yex (c := 4) (by decide) (by decide) (by decide) h⟩
theorem yk_4_6 {r : Nat} (h : ps_is r 4 = true) : ps_ar (ps_c0 r 6) 0 = true ∧ xO (ps_c0 r 6) := ⟨(xk_4_6 h).1, (xk_4_6 h).2, yex (c := 4) (by decide) (by decide) (by decide) h⟩
theorem yk_4_7 {r : Nat} (h : ps_is r 4 = true) : ps_ar (ps_c0 r 7) 0 = true ∧ xO (ps_c0 r 7) := ⟨(xk_4_7 h).1, (xk_4_7 h).2, yex (c := 4) (by decide) (by decide) (by decide) h⟩
theorem yk_5_0 {r : Nat} (h : ps_is r 5 = true) : ps_ar (ps_c0 r 0) 0 = true ∧ xO (ps_c0 r 0) := ⟨(xk_5_0 h).1, (xk_5_0 h).2, yex (c := 5) (by decide) (by decide) (by decide) h⟩
theorem yk_6_0 {r : Nat} (h : ps_is r 6 = true) : ps_ar (ps_c0 r 0) 0 = true ∧ xO (ps_c0 r 0) := ⟨(xk_6_0 h).1, (xk_6_0 h).2, yex (c := 6) (by decide) (by decide) (by decide) h⟩
theorem yk_6_1 {r : Nat} (h : ps_is r 6 = true) : ps_ar (ps_c0 r 1) 0 = true ∧ xO (ps_c0 r 1) := ⟨(xk_6_1 h).1, (xk_6_1 h).2, yex (c := 6) (by decide) (by decide) (by decide) h⟩
theorem yk_6_2 {r : Nat} (h : ps_is r 6 = true) : ps_ar (ps_c0 r 2) 0 = true ∧ xO (ps_c0 r 2) := ⟨(xk_6_2 h).1, (xk_6_2 h).2, yex (c := 6) (by decide) (by decide) (by decide) h⟩
theorem yk_7_2 {r : Nat} (h : ps_is r 7 = true) : ps_ar (ps_c0 r 2) 0 = true ∧ xO (ps_c0 r 2) := ⟨(xk_7_2 h).1, (xk_7_2 h).2, yex (c := 7) (by decide) (by decide) (by decide) h⟩
theorem yk_7_3 {r : Nat} (h : ps_is r 7 = true) : ps_ar (ps_c0 r 3) 0 = true ∧ xO (ps_c0 r 3) := ⟨(xk_7_3 h).1, (xk_7_3 h).2, yex (c := 7) (by decide) (by decide) (by decide) h⟩
theorem yk_7_4 {r : Nat} (h : ps_is r 7 = true) : ps_ar (ps_c0 r 4) 0 = true ∧ xO (ps_c0 r 4) := ⟨(xk_7_4 h).1, (xk_7_4 h).2, yex (c := 7) (by decide) (by decide) (by decide) h⟩
theorem yk_8_1 {r : Nat} (h : ps_is r 8 = true) : ps_ar (ps_c0 r 1) 0 = true ∧ xO (ps_c0 r 1) := ⟨(xk_8_1 h).1, (xk_8_1 h).2, yex (c := 8) (by decide) (by decide) (by decide) h⟩
theorem yk_8_7 {r : Nat} (h : ps_is r 8 = true) : ps_ar (ps_c0 r 7) 0 = true ∧ xO (ps_c0 r 7) := ⟨(xk_8_7 h).1, (xk_8_7 h).2, yex (c := 8) (by decide) (by decide) (by decide) h⟩
theorem yk_9_0 {r : Nat} (h : ps_is r 9 = true) : ps_ar (ps_c0 r 0) 3 = true ∧ xO (ps_c0 r 0) := ⟨(xk_9_0 h).1, (xk_9_0 h).2, yex (c := 9) (by decide) (by decide) (by decide) h⟩
theorem yk_9_1 {r : Nat} (h : ps_is r 9 = true) : ps_ar (ps_c0 r 1) 3 = true ∧ xO (ps_c0 r 1) := ⟨(xk_9_1 h).1, (xk_9_1 h).2, yex (c := 9) (by decide) (by decide) (by decide) h⟩
theorem yk_9_2 {r : Nat} (h : ps_is r 9 = true) : ps_ar (ps_c0 r 2) 3 = true ∧ xO (ps_c0 r 2) := ⟨(xk_9_2 h).1, (xk_9_2 h).2, yex (c := 9) (by decide) (by decide) (by decide) h⟩
theorem yw_i {m s : ps_S} {t : Int32} {r c q : Nat} {v : Int32} (hc : c < 11) (h : ps_is r c = true) (J : yJ m t s) : yJ m t (ps_ui s r q v) := ⟨xw_i hc h J.1, J.2⟩
theorem yw_j {m s : ps_S} {t : Int32} {r c q : Nat} {v : Int64} (hc : c < 11) (h : ps_is r c = true) (J : yJ m t s) : yJ m t (ps_uj s r q v) := ⟨xw_j hc h J.1, J.2⟩
theorem yw_tape {m s : ps_S} {t v : Int32} (J : yJ m t s) : yJ m v (ps_ui s 0 1 v) := ⟨xw_tape J.1, J.2⟩
theorem yw_rc {m s : ps_S} {t : Int32} {r q v c : Nat} (hc : c ≠ 11) (p : ps_is r c = true) (J' : xJ m t (ps_ur s r q v)) (J : yJ m t s) : yJ m t (ps_ur s r q v) := by
  have hr : r ≠ 0 := fun z => by
    subst z
    exact hc (xis_c p (show ps_is 0 11 = true from rfl))
  refine ⟨J', J.2.1, J.2.2.1, J.2.2.2.1, ?_, ?_⟩
  · rw [ps_r_ur, if_neg (fun z => hr z.1.symm)]; exact J.2.2.2.2.1
  · rw [ps_r_ur, if_neg (fun z => hr z.1.symm)]; exact J.2.2.2.2.2
theorem yw_rq {m s : ps_S} {t : Int32} {r q v : Nat} (hq : q ≠ 2 ∧ q ≠ 3) (J' : xJ m t (ps_ur s r q v)) (J : yJ m t s) : yJ m t (ps_ur s r q v) := by
  refine ⟨J', J.2.1, J.2.2.1, J.2.2.2.1, ?_, ?_⟩
  · rw [ps_r_ur, if_neg (fun z => hq.1 z.2.symm)]; exact J.2.2.2.2.1
  · rw [ps_r_ur, if_neg (fun z => hq.2 z.2.symm)]; exact J.2.2.2.2.2
theorem yw_r2 {m s : ps_S} {t : Int32} {r q v : Nat} (hv : v = 2 ∨ v = 26) (J' : xJ m t (ps_ur s r q v)) (J : yJ m t s) : yJ m t (ps_ur s r q v) := by
  refine ⟨J', J.2.1, J.2.2.1, J.2.2.2.1, ?_, ?_⟩
  · rw [ps_r_ur]; split
    · exact hv
    · exact J.2.2.2.2.1
  · rw [ps_r_ur]; split
    · exact hv
    · exact J.2.2.2.2.2
theorem yr_2 {m s : ps_S} {t : Int32} (J : yJ m t s) : ps_r s 0 2 = 2 ∨ ps_r s 0 2 = 26 := J.2.2.2.2.1
theorem yr_3 {m s : ps_S} {t : Int32} (J : yJ m t s) : ps_r s 0 3 = 2 ∨ ps_r s 0 3 = 26 := J.2.2.2.2.2
theorem yw_a {m s : ps_S} {t : Int32} {r q : Nat} {v : Int32} (p : ps_ar r 0 = true ∧ xO r) (J : yJ m t s) : yJ m t (ps_ua s r q v) := by
  obtain ⟨J1, h1, h2, h3, h4, h5⟩ := J
  obtain ⟨p1, p2, p3, p4, p5⟩ := p
  have hr : r ≠ 1 := fun z => by subst z; exact absurd p1 (by decide)
  refine ⟨xw_a p2 J1, ?_, h2, fun i hi => ⟨?_, ?_⟩, h4, h5⟩
  · rw [← h1]
    funext j
    rw [ps_a_ua, if_neg (fun z => hr z.1.symm)]
  · rw [ps_a_ua, if_neg (fun z => p3 z.1.symm)]
    exact (h3 i hi).1
  · rw [ps_a_ua, if_neg (fun z => p4 z.1.symm)]
    exact (h3 i hi).2
theorem yw_b {m s : ps_S} {t : Int32} {r q : Nat} {v : Int64} (p : ps_ar r 3 = true ∧ xO r) (J : yJ m t s) : yJ m t (ps_ub s r q v) := by
  obtain ⟨J1, h1, h2, h3, h4, h5⟩ := J
  obtain ⟨p1, p2, p3, p4, p5⟩ := p
  refine ⟨xw_b p2 J1, h1, ?_, h3, h4, h5⟩
  rw [← h2]
  funext j
  rw [ps_b_ub, if_neg (fun z => p5 z.1.symm)]
def yth (a : Nat) : Nat → Bool
  | 0 => true
  | n + 1 => (!ps_is (a + n) 9 || [2, 26, 70, 480, 908, 965].contains (a + n)) && yth a n
theorem yth_ok {a : Nat} : ∀ {n : Nat}, yth a n = true → ∀ r, a ≤ r → r < a + n → ps_is r 9 = true → r ∈ [2, 26, 70, 480, 908, 965]
  | 0, _, r, h1, h2, _ => by omega
  | n + 1, h, r, h1, h2, h3 => by
    unfold yth at h
    rw [Bool.and_eq_true] at h
    by_cases e : r = a + n
    · have g := h.1
      rw [← e, h3, Bool.or_eq_true] at g
      rcases g with g | g
      · cases g
      · exact List.contains_iff_mem.mp g
    · exact yth_ok h.2 r h1 (by omega) h3
set_option maxRecDepth 1000000
theorem yth_0 : yth 0 150 = true := by decide +kernel
theorem yth_150 : yth 150 150 = true := by decide +kernel
theorem yth_300 : yth 300 150 = true := by decide +kernel
theorem yth_450 : yth 450 150 = true := by decide +kernel
theorem yth_600 : yth 600 150 = true := by decide +kernel
theorem yth_750 : yth 750 150 = true := by decide +kernel
theorem yth_900 : yth 900 150 = true := by decide +kernel
theorem yth_1050 : yth 1050 81 = true := by decide +kernel
set_option maxRecDepth 100000
/-- the theories -/
theorem y_th {r : Nat} (h : ps_is r 9 = true) : r ∈ [2, 26, 70, 480, 908, 965] := by
  have hr := xis_lt (by decide) h
  by_cases h150 : r < 150
  · exact yth_ok yth_0 r (by omega) (by omega) h
  by_cases h300 : r < 300
  · exact yth_ok yth_150 r (by omega) (by omega) h
  by_cases h450 : r < 450
  · exact yth_ok yth_300 r (by omega) (by omega) h
  by_cases h600 : r < 600
  · exact yth_ok yth_450 r (by omega) (by omega) h
  by_cases h750 : r < 750
  · exact yth_ok yth_600 r (by omega) (by omega) h
  by_cases h900 : r < 900
  · exact yth_ok yth_750 r (by omega) (by omega) h
  by_cases h1050 : r < 1050
  · exact yth_ok yth_900 r (by omega) (by omega) h
  exact yth_ok yth_1050 r (by omega) (by omega) h
theorem yt_ix {r q : Nat} {n b : Int32} (h : ps_is r 9 = true) (hb : (b = 10 ∧ q = 0) ∨ (b = 20 ∧ q = 1)) (h0 : 0 ≤ n) (h1 : n < nI (ps_ln (ps_c0 r q))) : 10 ≤ (b + n).toInt := by
  have f0 : (0 : Int) ≤ n.toInt := xle h0
  have e : ps_ln (ps_c0 r q) ≤ 6 := by
    have hq : q = 0 ∨ q = 1 := by omega
    exact (show ∀ r, r ∈ [2, 26, 70, 480, 908, 965] → ∀ q, q < 2 → ps_ln (ps_c0 r q) ≤ 6 by decide) r (y_th h) q (by omega)
  have f1 : n.toInt < (nI (ps_ln (ps_c0 r q))).toInt := xlt h1
  rw [nI_toInt (by omega)] at f1
  have c10 : (10 : Int32).toInt = 10 := by decide
  have c20 : (20 : Int32).toInt = 20 := by decide
  rcases hb with ⟨rfl, -⟩ | ⟨rfl, -⟩
  · rw [xI_add (by omega) (by omega)]; omega
  · rw [xI_add (by omega) (by omega)]; omega
theorem yw_t {m s : ps_S} {t : Int32} {r q : Nat} {v : Int32} (h : ps_ar r 0 = true ∧ r < 1131) (hq : 10 ≤ q) (J : yJ m t s) : yJ m t (ps_ua s r q v) := by
  obtain ⟨J1, h1, h2, h3, h4, h5⟩ := J
  have hr : r ≠ 1 := fun z => by subst z; exact absurd h.1 (by decide)
  refine ⟨xw_a h.2 J1, ?_, h2, fun i hi => ⟨?_, ?_⟩, h4, h5⟩
  · rw [← h1]
    funext j
    rw [ps_a_ua, if_neg (fun z => by omega)]
  · rw [ps_a_ua, if_neg (fun z => by omega)]
    exact (h3 i hi).1
  · rw [ps_a_ua, if_neg (fun z => by omega)]
    exact (h3 i hi).2
theorem ys_183t {m s : ps_S} {t : Int32} {d : Nat} {r0 : Nat} {x1 : Int32} {x2 : Int32} {f : ps_S → Prop} (h : ps_is r0 9 = true) (hx : 10 ≤ x1.toInt) (J : yJ m t s) (k : ∀ (s' : ps_S), yJ m t s' → ps_i s' = ps_i s → f s') : ps_Cl d 183 [.ref (ps_c0 r0 3), .int x1, .int x2] s (ps_rV f) := by
  have h0 := xk_9_3 h
  have hq : 10 ≤ Int32.toNatClampNeg x1 := by
    show 10 ≤ x1.toInt.toNat
    omega
  exact pg_183_0 (And.intro (fun f1 => (k s J rfl)) (fun f1 => (ps_nk_i (xn_l (h0).1) (And.intro (fun f2 => (k s J rfl)) (fun f2 => (ps_nk_i (xn_0 (h0).1) (ps_nd_i (xg_in f1 f2) (k (ps_ua s (ps_c0 r0 3) (Int32.toNatClampNeg x1) x2) (yw_t h0 hq J) rfl))))))))
def ysF (d : Nat) (x : Int32) : Prop := ∀ (m s : ps_S) (t : Int32) (r0 : Nat) (f : Int32 → ps_S → Prop), ps_is r0 3 = true → yJ m t s → (∀ (v : Int32) (s' : ps_S), v &&& 1 = v → yJ m t s' → f v s') → ps_Cl (d + 8) 70 [.ref r0, .int x] s (ps_rI f)
def ysT (d : Nat) (x : Int32) : Prop := ∀ (m s : ps_S) (t : Int32) (r0 : Nat) (f : Int32 → ps_S → Prop), ps_is r0 3 = true → yJ m t s → (∀ (v : Int32) (s' : ps_S), v &&& 1 = v → yJ m t s' → f v s') → ps_Cl (d + 8) 76 [.ref r0, .int x] s (ps_rI f)
def ysS (d : Nat) (x : Int32) : Prop := ∀ (m s : ps_S) (t : Int32) (r0 : Nat) (x1 x2 : Int32) (f : Int32 → ps_S → Prop), ps_is r0 0 = true → yJ m t s → (∀ (v : Int32) (s' : ps_S), v &&& 1 = v → yJ m t s' → f v s') → ps_Cl (d + 8) 15 [.ref r0, .int x1, .int x2, .int x] s (ps_rI f)
def ysG (d : Nat) (x : Int32) : Prop := ∀ (m s : ps_S) (t : Int32) (r0 : Nat) (x1 x2 : Int32) (f : Int32 → ps_S → Prop), ps_is r0 0 = true → yJ m t s → (∀ (v : Int32), f v s) → ps_Cl (d + 8) 18 [.ref r0, .int x1, .int x2, .int x] s (ps_rI f)
