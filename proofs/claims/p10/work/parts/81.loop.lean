/-! the law: both constructors, then call by call -/
theorem pm_Tk7 {X : Option (Nat × (Nat → Int32))} {d y pc k d' kd j a mm pl nest : Nat} {L : pm_L} {st : List Value} {w w1 : pm_W} {o1 : Option Value} {i : Instr} {Q : Option Value → pm_W → Prop} (hc : pm_code y pc = some (i, k)) (hR : pm_isR i = false) (hcal : pm_cal i = (kd, j)) (hkd : kd ≠ 0) (hl : pm_l4 (pm_ML (pm_own y)) j = some (a, mm, pl, nest)) (h6 : 5 < mm) (hd : d = d' + 1)
    (hck : pm_ckd kd mm nest st w = true) (hcall : pm_T none d' (mm - 6) 0 (lv_args 0 (st.take (pm_na kd mm)).reverse) [] w (o1, w1)) (h : pm_H X d y (pc + 3) L (o1.toList ++ st.drop (pm_na kd mm)) w1 Q) : pm_H X d y pc L st w Q :=
  pm_H.call (Q1 := fun o w' => o = o1 ∧ w' = w1) hc hR hcal hkd hl h6 hd hck ⟨o1, w1, hcall.lift, rfl, rfl⟩ (fun o w' hh => by obtain ⟨rfl, rfl⟩ := hh; exact h)
theorem pin_i7 {k : Int32} {n : Nat} (h : pm_in k n = true) : 0 ≤ k.toInt ∧ k.toInt < n := by
  unfold pm_in at h
  rw [Bool.and_eq_true] at h
  have h1 := Int32.le_iff_toInt_le.mp (of_decide_eq_true h.1)
  have h2 : k.toInt.toNat < n := Nat.le_of_ble_eq_true h.2
  rw [Int32.toInt_zero] at h1
  omega
set_option maxRecDepth 100000
theorem l7_loop {L : Nat} (hL : L ≤ 3072) {xs : Nat → Int32} : ∀ (n : Nat) (x3 t : Int32) (w : pm_W) (s : ps_S), 0 ≤ x3.toInt → x3.toInt ≤ 3078 → 3100 - x3.toInt ≤ (n : Int) → ps_R w s → FSt s t → pm_H (some (L, xs)) 300 310 18 [(3, .int x3), (2, .ref 1131), (1, .ref 0), (0, .ref pm_SC)] [] w (fun o w' => o = some (.int 1) ∧ w'.2 = (1179, 65954)) := by
  intro n
  induction n with
  | zero =>
    intro x3 t w s h0 h1 hn _ _
    omega
  | succ n ih =>
    intro x3 t w s h0 h1 hn hw hS
    have eL : (nI L).toInt = (L : Int) := nI_toInt (by omega)
    have e6 : (6 : Int32).toInt = 6 := by decide
    have eL6 : (nI L - 6).toInt = (L : Int) - 6 := by rw [xIs (by omega) (by omega), eL, e6]
    refine pm_H.go (pc' := 19) rfl rfl rfl rfl ?_
    refine pm_H.go (pc' := 20) rfl rfl rfl rfl ?_
    refine pm_H.go (pc' := 21) (st' := [.int (nI L), .int x3]) rfl rfl rfl rfl ?_
    refine pm_H.go (pc' := 23) (st' := [.int 6, .int (nI L), .int x3]) rfl rfl rfl rfl ?_
    refine pm_H.go (pc' := 24) (st' := [.int (nI L - 6), .int x3]) rfl rfl rfl rfl ?_
    by_cases h : (nI L - 6) < x3
    · refine pm_H.bricmp (b := true) (pc' := 864) rfl rfl (decide_eq_true h) rfl rfl ?_
      refine pm_H.go (pc' := 865) (st' := [.int 1]) rfl rfl rfl rfl ?_
      exact pm_H.ret rfl rfl rfl ⟨rfl, hw.1⟩
    · have h2 : x3.toInt + 6 ≤ (L : Int) := by
        have : ¬ ((nI L - 6).toInt < x3.toInt) := fun q => h (Int32.lt_iff_toInt_lt.mpr q)
        omega
      have ha : ∀ (k : Int32) (_ : pm_in k 6 = true), pm_in (x3 + k) L = true := fun k hk => by
        have q := pin_i7 hk
        have ek : (x3 + k).toInt = x3.toInt + k.toInt := xIa (by omega) (by omega)
        exact xgi (by omega) (by omega)
      have kk : ∀ (w' : pm_W) (s' : ps_S) (t' : Int32), ps_R w' s' → FSt s' t' → pm_H (some (L, xs)) 300 310 858 [(3, .int x3), (2, .ref 1131), (1, .ref 0), (0, .ref pm_SC)] [] w' (fun o w' => o = some (.int 1) ∧ w'.2 = (1179, 65954)) := fun w' s' t' hw' h' => by
        have e36 : (x3 + 6).toInt = x3.toInt + 6 := by rw [xIa (by omega) (by omega), e6]
        refine pm_H.go (pc' := 861) (L' := [(3, .int (x3 + 6)), (2, .ref 1131), (1, .ref 0), (0, .ref pm_SC)]) rfl rfl rfl rfl ?_
        refine pm_H.go (pc' := 18) rfl rfl rfl rfl ?_
        exact ih (x3 + 6) t' w' s' (by omega) (by omega) (by omega) hw' h'
      refine pm_H.bricmp (b := false) (pc' := 27) rfl rfl (decide_eq_false h) rfl rfl ?_
      refine pm_H.go (pc' := 28) (st' := [.ref pm_SC]) rfl rfl rfl rfl ?_
      refine pm_H.go (pc' := 29) (st' := [.int x3, .ref pm_SC]) rfl rfl rfl rfl ?_
      refine pm_H.sld (i := x3) rfl rfl (xgi h0 (by omega)) ?_
      refine pm_H.go (pc' := 32) (st' := [.int 31, .int (xs (Int32.toNatClampNeg x3))]) rfl rfl rfl rfl ?_
      refine pm_H.go (pc' := 33) (st' := [.int (xs (Int32.toNatClampNeg x3) &&& 31)]) rfl rfl rfl rfl ?_
      obtain ⟨j, hj, ej⟩ := pk_andE (xs (Int32.toNatClampNeg x3)) (m := 31) 5 (by decide)
      rw [ej]
      have hj' : j < 32 := hj
      rcases (show j = 0 ∨ j = 1 ∨ j = 2 ∨ j = 3 ∨ j = 4 ∨ j = 5 ∨ j = 6 ∨ j = 7 ∨ j = 8 ∨ j = 9 ∨ j = 10 ∨ j = 11 ∨ j = 12 ∨ j = 13 ∨ j = 14 ∨ j = 15 ∨ j = 16 ∨ j = 17 ∨ j = 18 ∨ j = 19 ∨ j = 20 ∨ j = 21 ∨ j = 22 ∨ j = 23 ∨ j = 24 ∨ j = 25 ∨ j = 26 ∨ j = 27 ∨ j = 28 ∨ j = 29 ∨ j = 30 ∨ j = 31 by omega) with rfl | rfl | rfl | rfl | rfl | rfl | rfl | rfl | rfl | rfl | rfl | rfl | rfl | rfl | rfl | rfl | rfl | rfl | rfl | rfl | rfl | rfl | rfl | rfl | rfl | rfl | rfl | rfl | rfl | rfl | rfl | rfl
      · exact pm_H.go (pc' := 168) rfl rfl rfl rfl (l7_op0 ha hw hS kk)
      · exact pm_H.go (pc' := 231) rfl rfl rfl rfl (l7_op1 ha hw hS kk)
      · exact pm_H.go (pc' := 254) rfl rfl rfl rfl (l7_op2 ha hw hS kk)
      · exact pm_H.go (pc' := 267) rfl rfl rfl rfl (l7_op3 ha hw hS kk)
      · exact pm_H.go (pc' := 290) rfl rfl rfl rfl (l7_op4 ha hw hS kk)
      · exact pm_H.go (pc' := 303) rfl rfl rfl rfl (l7_op5 ha hw hS kk)
      · exact pm_H.go (pc' := 326) rfl rfl rfl rfl (l7_op6 ha hw hS kk)
      · exact pm_H.go (pc' := 359) rfl rfl rfl rfl (l7_op7 ha hw hS kk)
      · exact pm_H.go (pc' := 392) rfl rfl rfl rfl (l7_op8 ha hw hS kk)
      · exact pm_H.go (pc' := 435) rfl rfl rfl rfl (l7_op9 ha hw hS kk)
      · exact pm_H.go (pc' := 448) rfl rfl rfl rfl (l7_op10 ha hw hS kk)
      · exact pm_H.go (pc' := 481) rfl rfl rfl rfl (l7_op11 ha hw hS kk)
      · exact pm_H.go (pc' := 514) rfl rfl rfl rfl (l7_op12 ha hw hS kk)
      · exact pm_H.go (pc' := 527) rfl rfl rfl rfl (l7_op13 ha hw hS kk)
      · exact pm_H.go (pc' := 540) rfl rfl rfl rfl (l7_op14 ha hw hS kk)
      · exact pm_H.go (pc' := 563) rfl rfl rfl rfl (l7_op15 ha hw hS kk)
      · exact pm_H.go (pc' := 576) rfl rfl rfl rfl (l7_op16 ha hw hS kk)
      · exact pm_H.go (pc' := 599) rfl rfl rfl rfl (l7_op17 ha hw hS kk)
      · exact pm_H.go (pc' := 612) rfl rfl rfl rfl (l7_op18 ha hw hS kk)
      · exact pm_H.go (pc' := 625) rfl rfl rfl rfl (l7_op19 ha hw hS kk)
      · exact pm_H.go (pc' := 638) rfl rfl rfl rfl (l7_op20 ha hw hS kk)
      · exact pm_H.go (pc' := 651) rfl rfl rfl rfl (l7_op21 ha hw hS kk)
      · exact pm_H.go (pc' := 674) rfl rfl rfl rfl (l7_op22 ha hw hS kk)
      · exact pm_H.go (pc' := 687) rfl rfl rfl rfl (l7_op23 ha hw hS kk)
      · exact pm_H.go (pc' := 710) rfl rfl rfl rfl (l7_op24 ha hw hS kk)
      · exact pm_H.go (pc' := 733) rfl rfl rfl rfl (l7_op25 ha hw hS kk)
      · exact pm_H.go (pc' := 766) rfl rfl rfl rfl (l7_op26 ha hw hS kk)
      · exact pm_H.go (pc' := 789) rfl rfl rfl rfl (l7_op27 ha hw hS kk)
      · exact pm_H.go (pc' := 812) rfl rfl rfl rfl (l7_op28 ha hw hS kk)
      · exact pm_H.go (pc' := 835) rfl rfl rfl rfl (l7_op29 ha hw hS kk)
      · exact pm_H.go (pc' := 858) rfl rfl rfl rfl (kk w s t hw hS)
      · exact pm_H.go (pc' := 858) rfl rfl rfl rfl (kk w s t hw hS)
theorem pm_law6 {L : Nat} (hL : L ≤ 3072) (xs : Nat → Int32) : ∃ (n : Nat) (w' : pm_W), pm_run (some (L, xs)) n 300 310 0 [(0, .ref pm_SC)] [] pm_w0 = some (some (.int 1), w') ∧ w'.2.1 - 0 ≤ room_1.cells ∧ w'.2.2 - 0 ≤ room_1.slots := by
  have key : pm_H (some (L, xs)) 300 310 0 [(0, .ref pm_SC)] [] pm_w0 (fun o w' => o = some (.int 1) ∧ w'.2 = (1179, 65954)) := by
    refine pm_H.go (pc' := 3) rfl rfl rfl rfl ?_
    refine pm_H.go (pc' := 4) rfl rfl rfl rfl ?_
    refine pm_Tk7 (d' := 299) rfl rfl rfl (by decide) rfl (by decide) rfl rfl ⟨_, pm_mA⟩ ?_
    refine pm_H.go (pc' := 8) (L' := [(1, .ref 0), (0, .ref pm_SC)]) (st' := []) rfl rfl rfl rfl ?_
    refine pm_H.go (pc' := 11) rfl rfl rfl rfl ?_
    refine pm_H.go (pc' := 12) rfl rfl rfl rfl ?_
    refine pm_Tk7 (d' := 299) rfl rfl rfl (by decide) rfl (by decide) rfl rfl ⟨_, pm_mB⟩ ?_
    refine pm_H.go (pc' := 16) (L' := [(2, .ref 1131), (1, .ref 0), (0, .ref pm_SC)]) (st' := []) rfl rfl rfl rfl ?_
    refine pm_H.go (pc' := 17) rfl rfl rfl rfl ?_
    refine pm_H.go (pc' := 18) (L' := [(3, .int 0), (2, .ref 1131), (1, .ref 0), (0, .ref pm_SC)]) (st' := []) rfl rfl rfl rfl ?_
    exact l7_loop hL 3100 0 0 pm_w1 ps_s1 (by decide) (by decide) (by decide) s1_R s1_FSt
  obtain ⟨o, w', ⟨n, hn⟩, rfl, hz⟩ := key
  refine ⟨n, w', hn, ?_, ?_⟩
  · rw [hz]
    decide
  · rw [hz]
    decide
