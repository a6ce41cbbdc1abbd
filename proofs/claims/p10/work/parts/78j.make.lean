set_option maxRecDepth 100000
/-! the class: a step made, rule by rule -/
theorem CW_cfr {C : Nat → Prop} {s s' : ps_S} {r : Nat} {L : List Nat} (W : CW s r L) (F : cfr C s s') (h0 : ¬ C r) (h1 : ¬ C (r + 1)) : CW s' r L := by
  obtain ⟨w1, w2, w3⟩ := W
  have f := F r h0
  exact ⟨by rw [f.1]; exact w1, fun z => cv_W_cfr (w2 z) F h0 h1, fun z => by rw [f.1]; exact w3 z⟩
/-- begun: nothing is left out, nothing assumed yet -/
def cpB (s : ps_S) (p t : Nat) : Prop := (∀ k, k < 3 → CW s (otc p k) []) ∧ (ps_i s t 8).toInt = 0 ∧ ps_i s t 9 = 0 ∧ ps_i s t 10 = 0 ∧ ps_i s t 11 = 0
/-- made -/
def cpM (s : ps_S) (p : Nat) (h : tx_H) (Θ : List tq_H) (D : List tq_R) (st : tp_P) : Prop := CW s (stc p D.length + 6) (tq_mk h Θ D st).2.1 ∧ (CW s (otc p 0) (tq_mk h Θ D st).2.2.1 ∧ CW s (otc p 1) (tq_mk h Θ D st).2.2.2.1 ∧ CW s (otc p 2) (tq_mk h Θ D st).2.2.2.2) ∧ (ps_i s (stc p D.length) 10 = (if st.1.1 = 10 then tq_b st.2.1.1 else 0) ∧ ps_i s (stc p D.length) 11 = (if st.1.1 = 12 then tq_b st.1.2.1 else 0)) ∧ (st.1.1 ≠ 11 → PA s (stc p D.length) D []) ∧ (st.1.1 = 11 → (ps_i s (stc p D.length) 8).toInt = 1 ∧ ps_i s (stc p D.length) 9 = 0 ∧ (ps_a s (stc p D.length + 8) 0).toInt = D.length) ∧ cpN s (stc p D.length) st
def cpK (s : ps_S) (p : Nat) (h : tx_H) (Θ : List tq_H) (D : List tq_R) (st : tp_P) (v : Int32) (s' : ps_S) : Prop := v.toInt = (tq_mk h Θ D st).1 ∧ ((tq_mk h Θ D st).1 = 0 → cpM s' p h Θ D st) ∧ cfr (CTO p D.length) s s'
theorem PA_0 {s : ps_S} {t : Nat} {D : List tq_R} (h8 : (ps_i s t 8).toInt = 0) (h9 : ps_i s t 9 = 0) : PA s t D [] := ⟨by rw [h8]; rfl, Nat.zero_le _, fun _ => h9, fun z => absurd z (Nat.not_lt_zero _), fun n y _ hy => by cases hy⟩
theorem cpM_0 {C : Nat → Prop} {s s' : ps_S} {p : Nat} {h : tx_H} {Θ : List tq_H} {D : List tq_R} {st : tp_P} {L : List Nat} (hm : tq_mk h Θ D st = (0, L, [], [], [])) (h10 : st.1.1 ≠ 10) (h11 : st.1.1 ≠ 11) (h12 : st.1.1 ≠ 12) (B : cpB s p (stc p D.length)) (N : cpN s (stc p D.length) st) (F : cfr C s s') (h1 : ¬ C (stc p D.length)) (h1' : ¬ C (stc p D.length + 1)) (h2 : ∀ q, p + 404 ≤ q → q ≤ p + 409 → ¬ C q) (W : CW s' (stc p D.length + 6) L) : cpM s' p h Θ D st := by
  obtain ⟨b1, b2, b3, b4, b5⟩ := B
  have f := F _ h1
  unfold cpM
  rw [hm, if_neg h10, if_neg h12]
  refine ⟨W, ⟨CW_cfr (b1 0 (by decide)) F (h2 _ (by unfold otc; omega) (by unfold otc; omega)) (h2 _ (by unfold otc; omega) (by unfold otc; omega)), CW_cfr (b1 1 (by decide)) F (h2 _ (by unfold otc; omega) (by unfold otc; omega)) (h2 _ (by unfold otc; omega) (by unfold otc; omega)), CW_cfr (b1 2 (by decide)) F (h2 _ (by unfold otc; omega) (by unfold otc; omega)) (h2 _ (by unfold otc; omega) (by unfold otc; omega))⟩, ⟨by rw [f.1]; exact b4, by rw [f.1]; exact b5⟩, fun _ => PA_0 (by rw [f.1]; exact b2) (by rw [f.1]; exact b3), fun z => absurd z h11, cpN_eq N (by rw [f.1]) (F _ h1').2.2.2.1⟩
/-- one row apart from the made one is filled -/
theorem C2_CTO {p i : Nat} (q : Nat) (h : C2 (stc p i + 6) q) : CTO p i q := by
  unfold C2 at h
  unfold CTO
  omega
theorem C2_out {p i k : Nat} (hk : k < 3) (q : Nat) (h : C2 (otc p k) q) : CTO p i q := by
  unfold C2 otc at h
  unfold CTO
  omega
theorem CSh_CTO {p i : Nat} (q : Nat) (h : CSh (p + 16) q) : CTO p i q := by
  unfold CSh at h
  unfold CTO
  omega
section RUL
variable {p th n1 n2 n3 ax x : Nat} {tt f : List Nat} {h : tx_H} {Θ : List tq_H} {D : List tq_R} {s : ps_S} {R : Int32 → ps_S → Prop}
theorem fs_43_r6 {n : Nat} {y2 : Int32} (hp : p = 50 ∨ p = 460) (hi : D.length < 40) (X : cpX s p th h Θ D ((6, n1, n2, n3), (ax, x), tt, f)) (hD : tq_GD h.1 D) (hG : tp_G h.1 h.2.length ((6, n1, n2, n3), (ax, x), tt, f)) (B : cpB s p (stc p D.length)) (k : ∀ v s', cpK s p h Θ D ((6, n1, n2, n3), (ax, x), tt, f) v s' → R v s') : pl_Cl n 43 [.ref p, .ref (stc p D.length), .int y2, .ref 870] s (ps_rI R) := by
  cases n with
  | zero => exact pl_At_0
  | succ n =>
  show pl_At (n + 1) 43 0 [(0, .ref p), (1, .ref (stc p D.length)), (2, .int y2), (3, .ref 870)] [] s (ps_rI R)
  obtain ⟨⟨x1, x2', x3⟩, x4, x5, x6, x7⟩ := id X
  have hN := cpN_of x6
  obtain ⟨t0, t1, t2, t3, t4, t5, t6, t7⟩ := x6
  have hl := stc_lt hp hi
  obtain ⟨cc1, cc4, cc5, cc6, cc8⟩ := stc_c hp hi
  obtain ⟨rr2, rr4, rr6⟩ := stc_row hp hi
  have hA := arh_k x1.1.2.2.1 x1.1.2.2.2.1
  have er : (ps_i s (stc p D.length) 0).toInt = (6 : Int) := t0
  obtain ⟨g1, g2⟩ := hG.2.1 (Or.inl rfl)
  have W := t6 (Or.inl rfl)
  refine pl_43_0 (pl_nk_i (fun _ => ?_))
  refine ⟨fun z => absurd (show (ps_i s (stc p D.length) 0).toInt = (10 : Int) from xeq z) (by omega), fun _ => ?_⟩
  refine ⟨fun z => absurd (show (ps_i s (stc p D.length) 0).toInt = (11 : Int) from xeq z) (by omega), fun _ => ?_⟩
  refine ⟨fun z => absurd (show (ps_i s (stc p D.length) 0).toInt = (12 : Int) from xeq z) (by omega), fun _ => ?_⟩
  refine pl_nk_i (fun _ => pl_nk_i (fun _ => pl_nk_i (fun _ => ?_)))
  rw [cc6, cc4]
  refine fs_97 rr6 rr2 rr2 (by omega) (by omega) W W rfl (fun s' W2 F2 => ?_)
  exact k _ _ ⟨by rw [tq_mk_6]; rfl, fun _ => cpM_0 tq_mk_6 (of_decide_eq_true rfl) (of_decide_eq_true rfl) (of_decide_eq_true rfl) B hN F2 (by unfold C2; omega) (by unfold C2; omega) (fun q a b => by unfold C2; omega) W2, cfr_mono F2 C2_CTO⟩

theorem fs_43_r10 {n : Nat} {y2 : Int32} (hp : p = 50 ∨ p = 460) (hi : D.length < 40) (X : cpX s p th h Θ D ((10, n1, n2, n3), (ax, x), tt, f)) (hD : tq_GD h.1 D) (hG : tp_G h.1 h.2.length ((10, n1, n2, n3), (ax, x), tt, f)) (B : cpB s p (stc p D.length)) (k : ∀ v s', cpK s p h Θ D ((10, n1, n2, n3), (ax, x), tt, f) v s' → R v s') : pl_Cl n 43 [.ref p, .ref (stc p D.length), .int y2, .ref 870] s (ps_rI R) := by
  cases n with
  | zero => exact pl_At_0
  | succ n =>
  show pl_At (n + 1) 43 0 [(0, .ref p), (1, .ref (stc p D.length)), (2, .int y2), (3, .ref 870)] [] s (ps_rI R)
  obtain ⟨⟨x1, x2', x3⟩, x4, x5, x6, x7⟩ := id X
  have hN := cpN_of x6
  obtain ⟨t0, t1, t2, t3, t4, t5, t6, t7⟩ := x6
  have hl := stc_lt hp hi
  obtain ⟨cc1, cc4, cc5, cc6, cc8⟩ := stc_c hp hi
  obtain ⟨rr2, rr4, rr6⟩ := stc_row hp hi
  have hA := arh_k x1.1.2.2.1 x1.1.2.2.2.1
  have er : (ps_i s (stc p D.length) 0).toInt = (10 : Int) := t0
  have hax : ax < h.2.length := hG.2.2.2.2.1 rfl
  have h8 := x1.2.2.1
  obtain ⟨⟨w, l⟩, hk⟩ : ∃ q, h.2[ax]? = some q := ⟨_, List.getElem?_eq_getElem hax⟩
  obtain ⟨-, -, W⟩ := x1.2.2.2 ax w l hk
  have Kk := th_K x3 (k := ax) (by omega)
  have em : (h.2.getD ax ([], [])).2 = l := by rw [List.getD_eq_getElem?_getD, hk]; rfl
  refine pl_43_0 (pl_nk_i (fun _ => ?_))
  refine ⟨fun _ => ?_, fun z => absurd (show (ps_i s (stc p D.length) 0).toInt = (10 : Int) from er) (xne z)⟩
  refine pl_nk_i (fun _ => pl_nk_i (fun _ => pl_nk_i (fun _ => ?_)))
  rw [x2', cc6]
  have t4 : (ps_i s (stc p D.length) 2).toInt = ax := t4 rfl
  clear t0 t1 t2 t3 t5 t6 t7
  refine fs_135 x3 t4 (by omega) ?_
  refine fs_95 rr6 (ps_is5 Kk.2.2.2.2.2.1) (by omega) W (fun s2 W2 F2 => pl_nk_i (fun _ => pl_nk_i (fun _ => ?_)))
  have f0 := F2 (stc p D.length) (by unfold C2; omega)
  obtain ⟨b1, b2, b3, b4, b5⟩ := B
  have F3 : cfr (CTO p D.length) s (ps_ui s2 (stc p D.length) 10 ((1 : Int32) <<< ((ps_i s2 (stc p D.length) 2) &&& 31))) := cfr_i (cfr_mono F2 C2_CTO) (Or.inl ⟨Nat.le_refl _, by omega⟩)
  have e2 : ps_i s2 (stc p D.length) 2 = nI ax := by rw [f0.1]; exact xnI t4
  have ou : ∀ k, k < 3 → CW (ps_ui s2 (stc p D.length) 10 ((1 : Int32) <<< ((ps_i s2 (stc p D.length) 2) &&& 31))) (otc p k) [] := fun k hk => CW_cfr (CW_cfr (b1 k hk) F2 (by unfold C2 otc; omega) (by unfold C2 otc; omega)) (cfr_i cfr_refl rfl : cfr (fun q => q = stc p D.length) _ _) (by unfold otc; omega) (by unfold otc; omega)
  refine k _ _ ⟨rfl, fun _ => ⟨?_, ⟨ou 0 (by decide), ou 1 (by decide), ou 2 (by decide)⟩, ⟨?_, ?_⟩, fun _ => PA_0 ?_ ?_, fun z => absurd z (of_decide_eq_true rfl), cpN_eq hN ?_ ?_⟩, F3⟩
  · rw [tq_mk_10]
    show CW _ _ (h.2.getD ax ([], [])).2
    rw [em]
    exact CW_cfr (CW_of W2) (cfr_i cfr_refl rfl : cfr (fun q => q = stc p D.length) _ _) (by omega) (by omega)
  · rw [ps_i_ui, if_pos ⟨rfl, rfl⟩, e2]
    rfl
  · rw [ps_i_ui, if_neg (by omega), f0.1]
    exact b5
  · rw [ps_i_ui, if_neg (by omega), f0.1]
    exact b2
  · rw [ps_i_ui, if_neg (by omega), f0.1]
    exact b3
  · rw [ps_i_ui, if_neg (by omega), f0.1]
  · exact (F2 (stc p D.length + 1) (by unfold C2; omega)).2.2.2.1

theorem fs_43_r11 {n : Nat} {y2 : Int32} (hy : y2.toInt = D.length) (hp : p = 50 ∨ p = 460) (hi : D.length < 40) (X : cpX s p th h Θ D ((11, n1, n2, n3), (ax, x), tt, f)) (hD : tq_GD h.1 D) (hG : tp_G h.1 h.2.length ((11, n1, n2, n3), (ax, x), tt, f)) (B : cpB s p (stc p D.length)) (k : ∀ v s', cpK s p h Θ D ((11, n1, n2, n3), (ax, x), tt, f) v s' → R v s') : pl_Cl n 43 [.ref p, .ref (stc p D.length), .int y2, .ref 870] s (ps_rI R) := by
  cases n with
  | zero => exact pl_At_0
  | succ n =>
  show pl_At (n + 1) 43 0 [(0, .ref p), (1, .ref (stc p D.length)), (2, .int y2), (3, .ref 870)] [] s (ps_rI R)
  obtain ⟨⟨x1, x2', x3⟩, x4, x5, x6, x7⟩ := id X
  have hN := cpN_of x6
  obtain ⟨t0, t1, t2, t3, t4, t5, t6, t7⟩ := x6
  have hl := stc_lt hp hi
  obtain ⟨cc1, cc4, cc5, cc6, cc8⟩ := stc_c hp hi
  obtain ⟨rr2, rr4, rr6⟩ := stc_row hp hi
  have hA := arh_k x1.1.2.2.1 x1.1.2.2.2.1
  have er : (ps_i s (stc p D.length) 0).toInt = (11 : Int) := t0
  have W := t7 (Or.inl rfl)
  obtain ⟨b1, b2, b3, b4, b5⟩ := B
  refine pl_43_0 (pl_nk_i (fun _ => ?_))
  refine ⟨fun z => absurd (show (ps_i s (stc p D.length) 0).toInt = (10 : Int) from xeq z) (by omega), fun _ => ?_⟩
  refine ⟨fun _ => ?_, fun z => absurd (show (ps_i s (stc p D.length) 0).toInt = (11 : Int) from er) (xne z)⟩
  refine pl_nk_i (fun _ => pl_nk_i (fun _ => ?_))
  rw [cc6, cc5]
  refine fs_95 rr6 rr4 (by omega) W (fun s2 W2 F2 => ?_)
  have f0 := F2 (stc p D.length) (by unfold C2; omega)
  have e8 : (ps_i s2 (stc p D.length) 8).toInt = (0 : Nat) := by rw [f0.1]; exact b2
  refine fs_123 (m := 0) (stc_is hp hi) hl.2.1 e8 (fun _ => ?_) (fun z => absurd z (by decide))
  have F3 : cfr (fun q => q = stc p D.length ∨ q = stc p D.length + 8) s2 (ps_ui (ps_ua s2 (stc p D.length + 8) 0 y2) (stc p D.length) 8 (ps_i s2 (stc p D.length) 8 + 1)) := cfr_i (cfr_a cfr_refl (Or.inr rfl)) (Or.inl rfl)
  refine k _ _ ⟨rfl, fun _ => ⟨CW_cfr (CW_of W2) F3 (by omega) (by omega), ⟨?_, ?_, ?_⟩, ⟨?_, ?_⟩, fun z => absurd rfl z, fun _ => ⟨?_, ?_, ?_⟩, cpN_eq hN ?_ ?_⟩, cfr_tr (cfr_mono F2 C2_CTO) (cfr_mono F3 (fun q z => Or.inl (by omega)))⟩
  · exact CW_cfr (CW_cfr (b1 0 (by decide)) F2 (by unfold C2 otc; omega) (by unfold C2 otc; omega)) F3 (by unfold otc; omega) (by unfold otc; omega)
  · exact CW_cfr (CW_cfr (b1 1 (by decide)) F2 (by unfold C2 otc; omega) (by unfold C2 otc; omega)) F3 (by unfold otc; omega) (by unfold otc; omega)
  · exact CW_cfr (CW_cfr (b1 2 (by decide)) F2 (by unfold C2 otc; omega) (by unfold C2 otc; omega)) F3 (by unfold otc; omega) (by unfold otc; omega)
  · rw [ps_i_ui, if_neg (by omega)]
    show ps_i s2 _ 10 = 0
    rw [f0.1]
    exact b4
  · rw [ps_i_ui, if_neg (by omega)]
    show ps_i s2 _ 11 = 0
    rw [f0.1]
    exact b5
  · rw [ps_i_ui, if_pos ⟨rfl, rfl⟩]
    exact xj1 e8 (by decide)
  · rw [ps_i_ui, if_neg (by omega)]
    show ps_i s2 _ 9 = 0
    rw [f0.1]
    exact b3
  · show (ps_a (ps_ua s2 (stc p D.length + 8) 0 y2) (stc p D.length + 8) 0).toInt = _
    rw [ps_a_ua, if_pos ⟨rfl, rfl⟩]
    exact hy
  · rw [ps_i_ui, if_neg (by omega)]
    show ps_i s2 _ 0 = _
    rw [f0.1]
  · rw [(F3 (stc p D.length + 1) (by omega)).2.2.2.1]
    exact (F2 (stc p D.length + 1) (by unfold C2; omega)).2.2.2.1

theorem r12_ne {p i n1 : Nat} (hp : p = 50 ∨ p = 460) (hi : i < 40) : 870 + 7 + 2 * n1 ≠ stc p i + 6 ∧ 870 + 7 + 2 * n1 ≠ stc p i + 6 + 1 ∧ 870 + 7 + 2 * n1 + 1 ≠ stc p i + 6 := by
  have := stc_lt hp hi
  omega
theorem r12_is {n1 : Nat} (h : n1 < 12) : ps_is (870 + 7 + 2 * n1) 5 = true := ((shf (q := 870) (Or.inl rfl)).1 n1 h).2

theorem fs_43_r12 {n : Nat} {y2 : Int32} (hn : n1 < Θ.length) (hp : p = 50 ∨ p = 460) (hi : D.length < 40) (X : cpX s p th h Θ D ((12, n1, n2, n3), (ax, x), tt, f)) (hD : tq_GD h.1 D) (hG : tp_G h.1 h.2.length ((12, n1, n2, n3), (ax, x), tt, f)) (B : cpB s p (stc p D.length)) (k : ∀ v s', cpK s p h Θ D ((12, n1, n2, n3), (ax, x), tt, f) v s' → R v s') : pl_Cl n 43 [.ref p, .ref (stc p D.length), .int y2, .ref 870] s (ps_rI R) := by
  cases n with
  | zero => exact pl_At_0
  | succ n =>
  show pl_At (n + 1) 43 0 [(0, .ref p), (1, .ref (stc p D.length)), (2, .int y2), (3, .ref 870)] [] s (ps_rI R)
  obtain ⟨⟨x1, x2', x3⟩, x4, x5, x6, x7⟩ := id X
  have hN := cpN_of x6
  obtain ⟨t0, t1, t2, t3, t4, t5, t6, t7⟩ := x6
  have hl := stc_lt hp hi
  obtain ⟨cc1, cc4, cc5, cc6, cc8⟩ := stc_c hp hi
  obtain ⟨rr2, rr4, rr6⟩ := stc_row hp hi
  have hA := arh_k x1.1.2.2.1 x1.1.2.2.2.1
  have er : (ps_i s (stc p D.length) 0).toInt = (12 : Int) := t0
  obtain ⟨z1, z2, z3⟩ := x4
  obtain ⟨q, hk⟩ : ∃ q, Θ[n1]? = some q := ⟨_, List.getElem?_eq_getElem hn⟩
  have W := (z3 n1 q hk).1
  have em : (Θ.getD n1 ([], 0, 0, 0)).1 = q.1 := by rw [List.getD_eq_getElem?_getD, hk]; rfl
  have tn : (ps_a s (stc p D.length + 1) 0).toInt = n1 := t1 (of_decide_eq_true rfl)
  refine pl_43_0 (pl_nk_i (fun _ => ?_))
  refine ⟨fun z => absurd (show (ps_i s (stc p D.length) 0).toInt = (10 : Int) from xeq z) (by omega), fun _ => ?_⟩
  refine ⟨fun z => absurd (show (ps_i s (stc p D.length) 0).toInt = (11 : Int) from xeq z) (by omega), fun _ => ?_⟩
  refine ⟨fun _ => ?_, fun z => absurd (show (ps_i s (stc p D.length) 0).toInt = (12 : Int) from er) (xne z)⟩
  refine pl_nk_i (fun _ => ?_)
  rw [cc6]
  refine fs_121 (j := 0) (stc_is hp hi) hl.2.1 rfl (by decide) ?_
  have h12 : n1 < 12 := Nat.lt_of_lt_of_le hn z2
  refine fs_110 (q := 870) (Or.inl rfl) tn h12 ?_
  refine fs_95 rr6 (r12_is h12) (r12_ne hp hi) W (fun s2 W2 F2 => ?_)
  refine fs_121 (j := 0) (stc_is hp hi) hl.2.1 rfl (by decide) (pl_nk_i (fun _ => ?_))
  have f0 := F2 (stc p D.length) (by unfold C2; omega)
  have f1 := F2 (stc p D.length + 1) (by unfold C2; omega)
  obtain ⟨b1, b2, b3, b4, b5⟩ := B
  have e2 : ps_a s2 (stc p D.length + 1) 0 = nI n1 := by rw [f1.2.2.2.1]; exact xnI tn
  rw [e2]
  have F3 : cfr (CTO p D.length) s (ps_ui s2 (stc p D.length) 11 ((1 : Int32) <<< (nI n1 &&& 31))) := cfr_i (cfr_mono F2 C2_CTO) (Or.inl ⟨Nat.le_refl _, by omega⟩)
  have ou : ∀ k, k < 3 → CW (ps_ui s2 (stc p D.length) 11 ((1 : Int32) <<< (nI n1 &&& 31))) (otc p k) [] := fun k hk => CW_cfr (CW_cfr (b1 k hk) F2 (by unfold C2 otc; omega) (by unfold C2 otc; omega)) (cfr_i cfr_refl rfl : cfr (fun q => q = stc p D.length) _ _) (by unfold otc; omega) (by unfold otc; omega)
  refine k _ _ ⟨rfl, fun _ => ⟨?_, ⟨ou 0 (by decide), ou 1 (by decide), ou 2 (by decide)⟩, ⟨?_, ?_⟩, fun _ => PA_0 ?_ ?_, fun z => absurd z (of_decide_eq_true rfl), cpN_eq hN ?_ ?_⟩, F3⟩
  · rw [tq_mk_12]
    show CW _ _ (Θ.getD n1 ([], 0, 0, 0)).1
    rw [em]
    exact CW_cfr (CW_of W2) (cfr_i cfr_refl rfl : cfr (fun q => q = stc p D.length) _ _) (by omega) (by omega)
  · rw [ps_i_ui, if_neg (by omega), f0.1]
    exact b4
  · rw [ps_i_ui, if_pos ⟨rfl, rfl⟩]
    rfl
  · rw [ps_i_ui, if_neg (by omega), f0.1]
    exact b2
  · rw [ps_i_ui, if_neg (by omega), f0.1]
    exact b3
  · rw [ps_i_ui, if_neg (by omega), f0.1]
  · exact (F2 (stc p D.length + 1) (by unfold C2; omega)).2.2.2.1

theorem fs_44_r13 {n : Nat} (hp : p = 50 ∨ p = 460) (hi : D.length < 40) (X : cpX s p th h Θ D ((13, n1, n2, n3), (ax, x), tt, f)) (hD : tq_GD h.1 D) (hG : tp_G h.1 h.2.length ((13, n1, n2, n3), (ax, x), tt, f)) (B : cpB s p (stc p D.length)) (h1 : n1 < D.length) (h2 : n2 < D.length) (k : ∀ v s', cpK s p h Θ D ((13, n1, n2, n3), (ax, x), tt, f) v s' → R v s') : pl_Cl n 44 [.ref p, .ref (stc p D.length), .ref (stc p n1 + 6)] s (ps_rI R) := by
  cases n with
  | zero => exact pl_At_0
  | succ n =>
  show pl_At (n + 1) 44 0 [(0, .ref p), (1, .ref (stc p D.length)), (2, .ref (stc p n1 + 6))] [] s (ps_rI R)
  obtain ⟨⟨x1, x2', x3⟩, x4, x5, x6, x7⟩ := id X
  have hN := cpN_of x6
  obtain ⟨t0, t1, t2, t3, t4, t5, t6, t7⟩ := x6
  have hl := stc_lt hp hi
  obtain ⟨cc1, cc4, cc5, cc6, cc8⟩ := stc_c hp hi
  obtain ⟨rr2, rr4, rr6⟩ := stc_row hp hi
  have hA := arh_k x1.1.2.2.1 x1.1.2.2.2.1
  have er : (ps_i s (stc p D.length) 0).toInt = (13 : Int) := t0
  obtain ⟨Ra, aa, ab, ac, ad, ae⟩ := prem_1 X hD h1
  have Wa : cv_W s (stc p n1 + 6) (tq_r D n1) := by rw [ab]; exact ad.1
  have r5a := (stc_row hp (i := n1) (by omega)).2.2
  have la : p + 44 ≤ stc p n1 ∧ stc p n1 + 9 ≤ stc p D.length := by unfold stc; omega
  have Ga : ws (sg h.1) (tq_r D n1) [true] := by rw [ab]; exact ae.1.1
  obtain ⟨Rb, ba, bb, bc, bd, be⟩ := prem_1 X hD h2
  have Wb : cv_W s (stc p n2 + 6) (tq_r D n2) := by rw [bb]; exact bd.1
  have r5b := (stc_row hp (i := n2) (by omega)).2.2
  have lb : p + 44 ≤ stc p n2 ∧ stc p n2 + 9 ≤ stc p D.length := by unfold stc; omega
  have Gb : ws (sg h.1) (tq_r D n2) [true] := by rw [bb]; exact be.1.1
  refine pl_44_0 (pl_nk_i (fun _ => ?_))
  refine ⟨fun _ => ?_, fun z => absurd (show (ps_i s (stc p D.length) 0).toInt = (13 : Int) from er) (xne z)⟩
  refine pl_nk_i (fun _ => ?_)
  rw [cc6]
  refine fs_37 (j := 1) (i := n2) hp (stc_is hp hi) hl.2.1 rfl (by decide) (t2 (of_decide_eq_true rfl)) (by omega) (pl_nk_i (fun _ => ?_))
  rw [(stc_c hp (i := n2) (by omega)).2.2.2.1]
  refine fs_97 rr6 r5a r5b (by omega) (by omega) Wa Wb rfl (fun s' W2 F2 => ?_)
  exact k _ _ ⟨by rw [tq_mk_13]; rfl, fun _ => cpM_0 tq_mk_13 (of_decide_eq_true rfl) (of_decide_eq_true rfl) (of_decide_eq_true rfl) B hN F2 (by unfold C2; omega) (by unfold C2; omega) (fun q a b => by unfold C2; omega) W2, cfr_mono F2 C2_CTO⟩

theorem fs_44_r16 {n : Nat} (hp : p = 50 ∨ p = 460) (hi : D.length < 40) (X : cpX s p th h Θ D ((16, n1, n2, n3), (ax, x), tt, f)) (hD : tq_GD h.1 D) (hG : tp_G h.1 h.2.length ((16, n1, n2, n3), (ax, x), tt, f)) (B : cpB s p (stc p D.length)) (h1 : n1 < D.length) (k : ∀ v s', cpK s p h Θ D ((16, n1, n2, n3), (ax, x), tt, f) v s' → R v s') : pl_Cl n 44 [.ref p, .ref (stc p D.length), .ref (stc p n1 + 6)] s (ps_rI R) := by
  cases n with
  | zero => exact pl_At_0
  | succ n =>
  show pl_At (n + 1) 44 0 [(0, .ref p), (1, .ref (stc p D.length)), (2, .ref (stc p n1 + 6))] [] s (ps_rI R)
  obtain ⟨⟨x1, x2', x3⟩, x4, x5, x6, x7⟩ := id X
  have hN := cpN_of x6
  obtain ⟨t0, t1, t2, t3, t4, t5, t6, t7⟩ := x6
  have hl := stc_lt hp hi
  obtain ⟨cc1, cc4, cc5, cc6, cc8⟩ := stc_c hp hi
  obtain ⟨rr2, rr4, rr6⟩ := stc_row hp hi
  have hA := arh_k x1.1.2.2.1 x1.1.2.2.2.1
  have er : (ps_i s (stc p D.length) 0).toInt = (16 : Int) := t0
  obtain ⟨Ra, aa, ab, ac, ad, ae⟩ := prem_1 X hD h1
  have Wa : cv_W s (stc p n1 + 6) (tq_r D n1) := by rw [ab]; exact ad.1
  have r5a := (stc_row hp (i := n1) (by omega)).2.2
  have la : p + 44 ≤ stc p n1 ∧ stc p n1 + 9 ≤ stc p D.length := by unfold stc; omega
  have Ga : ws (sg h.1) (tq_r D n1) [true] := by rw [ab]; exact ae.1.1
  have W := t7 (of_decide_eq_true rfl)
  refine pl_44_0 (pl_nk_i (fun _ => ?_))
  refine ⟨fun z => absurd (show (ps_i s (stc p D.length) 0).toInt = (13 : Int) from xeq z) (by omega), fun _ => ?_⟩
  refine ⟨fun z => absurd (show (ps_i s (stc p D.length) 0).toInt = (14 : Int) from xeq z) (by omega), fun _ => ?_⟩
  refine ⟨fun z => absurd (show (ps_i s (stc p D.length) 0).toInt = (15 : Int) from xeq z) (by omega), fun _ => ?_⟩
  refine ⟨fun _ => ?_, fun z => absurd (show (ps_i s (stc p D.length) 0).toInt = (16 : Int) from er) (xne z)⟩
  refine pl_nk_i (fun _ => pl_nk_i (fun _ => ?_))
  rw [cc6, cc5]
  refine fs_97 rr6 r5a rr4 (by omega) (by omega) Wa W rfl (fun s' W2 F2 => ?_)
  exact k _ _ ⟨by rw [tq_mk_16]; rfl, fun _ => cpM_0 tq_mk_16 (of_decide_eq_true rfl) (of_decide_eq_true rfl) (of_decide_eq_true rfl) B hN F2 (by unfold C2; omega) (by unfold C2; omega) (fun q a b => by unfold C2; omega) W2, cfr_mono F2 C2_CTO⟩

theorem fs_44_r17 {n : Nat} (hp : p = 50 ∨ p = 460) (hi : D.length < 40) (X : cpX s p th h Θ D ((17, n1, n2, n3), (ax, x), tt, f)) (hD : tq_GD h.1 D) (hG : tp_G h.1 h.2.length ((17, n1, n2, n3), (ax, x), tt, f)) (B : cpB s p (stc p D.length)) (h1 : n1 < D.length) (k : ∀ v s', cpK s p h Θ D ((17, n1, n2, n3), (ax, x), tt, f) v s' → R v s') : pl_Cl n 44 [.ref p, .ref (stc p D.length), .ref (stc p n1 + 6)] s (ps_rI R) := by
  cases n with
  | zero => exact pl_At_0
  | succ n =>
  show pl_At (n + 1) 44 0 [(0, .ref p), (1, .ref (stc p D.length)), (2, .ref (stc p n1 + 6))] [] s (ps_rI R)
  obtain ⟨⟨x1, x2', x3⟩, x4, x5, x6, x7⟩ := id X
  have hN := cpN_of x6
  obtain ⟨t0, t1, t2, t3, t4, t5, t6, t7⟩ := x6
  have hl := stc_lt hp hi
  obtain ⟨cc1, cc4, cc5, cc6, cc8⟩ := stc_c hp hi
  obtain ⟨rr2, rr4, rr6⟩ := stc_row hp hi
  have hA := arh_k x1.1.2.2.1 x1.1.2.2.2.1
  have er : (ps_i s (stc p D.length) 0).toInt = (17 : Int) := t0
  obtain ⟨Ra, aa, ab, ac, ad, ae⟩ := prem_1 X hD h1
  have Wa : cv_W s (stc p n1 + 6) (tq_r D n1) := by rw [ab]; exact ad.1
  have r5a := (stc_row hp (i := n1) (by omega)).2.2
  have la : p + 44 ≤ stc p n1 ∧ stc p n1 + 9 ≤ stc p D.length := by unfold stc; omega
  have Ga : ws (sg h.1) (tq_r D n1) [true] := by rw [ab]; exact ae.1.1
  have W := t7 (of_decide_eq_true rfl)
  refine pl_44_0 (pl_nk_i (fun _ => ?_))
  refine ⟨fun z => absurd (show (ps_i s (stc p D.length) 0).toInt = (13 : Int) from xeq z) (by omega), fun _ => ?_⟩
  refine ⟨fun z => absurd (show (ps_i s (stc p D.length) 0).toInt = (14 : Int) from xeq z) (by omega), fun _ => ?_⟩
  refine ⟨fun z => absurd (show (ps_i s (stc p D.length) 0).toInt = (15 : Int) from xeq z) (by omega), fun _ => ?_⟩
  refine ⟨fun z => absurd (show (ps_i s (stc p D.length) 0).toInt = (16 : Int) from xeq z) (by omega), fun _ => ?_⟩
  refine ⟨fun _ => ?_, fun z => absurd (show (ps_i s (stc p D.length) 0).toInt = (17 : Int) from er) (xne z)⟩
  refine pl_nk_i (fun _ => pl_nk_i (fun _ => ?_))
  rw [cc6, cc5]
  refine fs_97 rr6 rr4 r5a (by omega) (by omega) W Wa rfl (fun s' W2 F2 => ?_)
  exact k _ _ ⟨by rw [tq_mk_17]; rfl, fun _ => cpM_0 tq_mk_17 (of_decide_eq_true rfl) (of_decide_eq_true rfl) (of_decide_eq_true rfl) B hN F2 (by unfold C2; omega) (by unfold C2; omega) (fun q a b => by unfold C2; omega) W2, cfr_mono F2 C2_CTO⟩

theorem fs_44_r20 {n : Nat} (hp : p = 50 ∨ p = 460) (hi : D.length < 40) (X : cpX s p th h Θ D ((20, n1, n2, n3), (ax, x), tt, f)) (hD : tq_GD h.1 D) (hG : tp_G h.1 h.2.length ((20, n1, n2, n3), (ax, x), tt, f)) (B : cpB s p (stc p D.length)) (h1 : n1 < D.length) (k : ∀ v s', cpK s p h Θ D ((20, n1, n2, n3), (ax, x), tt, f) v s' → R v s') : pl_Cl n 44 [.ref p, .ref (stc p D.length), .ref (stc p n1 + 6)] s (ps_rI R) := by
  cases n with
  | zero => exact pl_At_0
  | succ n =>
  show pl_At (n + 1) 44 0 [(0, .ref p), (1, .ref (stc p D.length)), (2, .ref (stc p n1 + 6))] [] s (ps_rI R)
  obtain ⟨⟨x1, x2', x3⟩, x4, x5, x6, x7⟩ := id X
  have hN := cpN_of x6
  obtain ⟨t0, t1, t2, t3, t4, t5, t6, t7⟩ := x6
  have hl := stc_lt hp hi
  obtain ⟨cc1, cc4, cc5, cc6, cc8⟩ := stc_c hp hi
  obtain ⟨rr2, rr4, rr6⟩ := stc_row hp hi
  have hA := arh_k x1.1.2.2.1 x1.1.2.2.2.1
  have er : (ps_i s (stc p D.length) 0).toInt = (20 : Int) := t0
  obtain ⟨Ra, aa, ab, ac, ad, ae⟩ := prem_1 X hD h1
  have Wa : cv_W s (stc p n1 + 6) (tq_r D n1) := by rw [ab]; exact ad.1
  have r5a := (stc_row hp (i := n1) (by omega)).2.2
  have la : p + 44 ≤ stc p n1 ∧ stc p n1 + 9 ≤ stc p D.length := by unfold stc; omega
  have Ga : ws (sg h.1) (tq_r D n1) [true] := by rw [ab]; exact ae.1.1
  have W := t7 (of_decide_eq_true rfl)
  obtain ⟨b1, b2, b3, b4, b5⟩ := B
  refine pl_44_0 (pl_nk_i (fun _ => ?_))
  refine ⟨fun z => absurd (show (ps_i s (stc p D.length) 0).toInt = (13 : Int) from xeq z) (by omega), fun _ => ?_⟩
  refine ⟨fun z => absurd (show (ps_i s (stc p D.length) 0).toInt = (14 : Int) from xeq z) (by omega), fun _ => ?_⟩
  refine ⟨fun z => absurd (show (ps_i s (stc p D.length) 0).toInt = (15 : Int) from xeq z) (by omega), fun _ => ?_⟩
  refine ⟨fun z => absurd (show (ps_i s (stc p D.length) 0).toInt = (16 : Int) from xeq z) (by omega), fun _ => ?_⟩
  refine ⟨fun z => absurd (show (ps_i s (stc p D.length) 0).toInt = (17 : Int) from xeq z) (by omega), fun _ => ?_⟩
  refine pl_nk_i (fun _ => pl_nk_i (fun _ => ?_))
  rw [cc6, cc5]
  refine fs_97 rr6 rr4 r5a (by omega) (by omega) W Wa rfl (fun s2 W2 F2 => ?_)
  refine fs_38 (i := 0) hp rfl (by decide) (pl_nk_i (fun _ => ?_))
  have W3 := cv_W_cfr W F2 (by unfold C2; omega) (by unfold C2; omega)
  refine fs_95 ((prf hp).2.1 0 (by decide)).2 rr4 (by unfold otc; omega) W3 (fun s3 W4 F3 => ?_)
  have f0 := F2 (stc p D.length) (by unfold C2; omega)
  have g0 := F3 (stc p D.length) (by unfold C2 otc; omega)
  have ou : ∀ k, 1 ≤ k → k < 3 → CW s3 (otc p k) [] := fun k h1 hk => CW_cfr (CW_cfr (b1 k hk) F2 (by unfold C2 otc; omega) (by unfold C2 otc; omega)) F3 (by unfold C2 otc; omega) (by unfold C2 otc; omega)
  refine k _ _ ⟨rfl, fun _ => ⟨CW_cfr W2 F3 (by unfold C2 otc; omega) (by unfold C2 otc; omega), ⟨CW_of W4, ou 1 (by decide) (by decide), ou 2 (by decide) (by decide)⟩, ⟨by rw [g0.1, f0.1]; exact b4, by rw [g0.1, f0.1]; exact b5⟩, fun _ => PA_0 (by rw [g0.1, f0.1]; exact b2) (by rw [g0.1, f0.1]; exact b3), fun z => absurd z (of_decide_eq_true rfl), cpN_eq hN (by rw [g0.1, f0.1]) (((F3 (stc p D.length + 1) (by unfold C2 otc; omega)).2.2.2.1).trans (F2 (stc p D.length + 1) (by unfold C2; omega)).2.2.2.1)⟩, cfr_tr (cfr_mono F2 C2_CTO) (cfr_mono F3 (C2_out (by decide)))⟩

theorem fs_45_r14 {n : Nat} (hp : p = 50 ∨ p = 460) (hi : D.length < 40) (X : cpX s p th h Θ D ((14, n1, n2, n3), (ax, x), tt, f)) (hD : tq_GD h.1 D) (hG : tp_G h.1 h.2.length ((14, n1, n2, n3), (ax, x), tt, f)) (B : cpB s p (stc p D.length)) (h1 : n1 < D.length) (k : ∀ v s', cpK s p h Θ D ((14, n1, n2, n3), (ax, x), tt, f) v s' → R v s') : pl_Cl n 45 [.ref p, .ref (stc p D.length), .ref (stc p n1 + 6)] s (ps_rI R) := by
  cases n with
  | zero => exact pl_At_0
  | succ n =>
  show pl_At (n + 1) 45 0 [(0, .ref p), (1, .ref (stc p D.length)), (2, .ref (stc p n1 + 6))] [] s (ps_rI R)
  obtain ⟨⟨x1, x2', x3⟩, x4, x5, x6, x7⟩ := id X
  have hN := cpN_of x6
  obtain ⟨t0, t1, t2, t3, t4, t5, t6, t7⟩ := x6
  have hl := stc_lt hp hi
  obtain ⟨cc1, cc4, cc5, cc6, cc8⟩ := stc_c hp hi
  obtain ⟨rr2, rr4, rr6⟩ := stc_row hp hi
  have hA := arh_k x1.1.2.2.1 x1.1.2.2.2.1
  have er : (ps_i s (stc p D.length) 0).toInt = (14 : Int) := t0
  obtain ⟨Ra, aa, ab, ac, ad, ae⟩ := prem_1 X hD h1
  have Wa : cv_W s (stc p n1 + 6) (tq_r D n1) := by rw [ab]; exact ad.1
  have r5a := (stc_row hp (i := n1) (by omega)).2.2
  have la : p + 44 ≤ stc p n1 ∧ stc p n1 + 9 ≤ stc p D.length := by unfold stc; omega
  have Ga : ws (sg h.1) (tq_r D n1) [true] := by rw [ab]; exact ae.1.1
  obtain ⟨-, -, ⟨-, -, -, c3', c4', c5'⟩, -, i12, i14, i6, -⟩ := prf hp
  have h40 := Wa.2.2.1
  refine pl_45_0 (fs_92h (c := 1) r5a Wa (fun v1 hh q1 => ?_) (fun v1 hh q1 => ?_))
  · refine ⟨fun _ => ?_, fun z => absurd (show v1 = 1 from Int32.toInt_inj.mp q1) z⟩
    obtain ⟨w1, w2, w3, ea⟩ := tq_half hA Ga hh (kS_2 (by decide) (by decide))
    have hen := en_le hA (k := 1) w3 (by simp)
    have hl1 : (tq_1 (arh h.1) (tq_r D n1)).length = en (arh h.1) ((tq_r D n1).drop 1) 1 := by
      unfold tq_1
      rw [List.length_take]
      omega
    have hal : (tq_r D n1).length = 1 + ((tq_r D n1).drop 1).length := by
      have := congrArg List.length ea
      rw [List.length_cons] at this
      rw [List.length_drop]
      omega
    have h1s : ((tq_r D n1).drop 1).take (1 + (tq_1 (arh h.1) (tq_r D n1)).length - 1) = tq_1 (arh h.1) (tq_r D n1) := by
      rw [Nat.add_sub_cancel_left, hl1]
      rfl
    have h2s : ((tq_r D n1).drop (1 + (tq_1 (arh h.1) (tq_r D n1)).length)).take ((tq_r D n1).length - (1 + (tq_1 (arh h.1) (tq_r D n1)).length)) = tq_2 (arh h.1) (tq_r D n1) := by
      rw [List.take_of_length_le (by rw [List.length_drop]; omega), hl1, ← List.drop_drop]
      rfl
    have hm : tq_mk h Θ D ((14, n1, n2, n3), (ax, x), tt, f) = (0, tq_1 (arh h.1) (tq_r D n1), [], [], []) := by rw [tq_mk_14, if_pos hh]
    refine pl_nk_i (fun _ => pl_nk_i (fun _ => ?_))
    rw [c5', x2', cc6]
    refine fs_103 (r := p + 16) (r1 := stc p n1 + 6) (l := tq_r D n1) i6 r5a x3 (by omega) Ga (Or.inl rfl) Wa x1.1 (fun s2 Z F2 => pl_nk_i (fun _ => ?_))
    refine fs_104 (i := 1) i6 rfl (by decide) (fun v3 q3 => pl_nk_i (fun _ => ?_))
    have e3 : v3.toInt = (1 + (tq_1 (arh h.1) (tq_r D n1)).length : Nat) := by
      rw [q3, Z.1 1 (Nat.zero_le _) (by obtain ⟨c, t, e⟩ := ws_ne w3; rw [e, List.length_cons] at hal; omega), hl1]
    have Wa2 := cv_W_cfr Wa F2 (by unfold CSh; omega) (by unfold CSh; omega)
    have er2 : (ps_i s2 (stc p D.length) 0).toInt = (14 : Int) := by rw [(F2 (stc p D.length) (by unfold CSh; omega)).1]; exact er
    refine ⟨fun z => absurd er2 (xne z), fun _ => ?_⟩
    refine pl_nk_i (fun _ => ?_)
    refine fs_96 (a := 1) (b := 1 + (tq_1 (arh h.1) (tq_r D n1)).length) rr6 r5a (by omega) Wa2 rfl e3 (by omega) (fun s4 W4 F4 => ?_)
    rw [h1s] at W4
    have FF : cfr (fun q => CSh (p + 16) q ∨ C2 (stc p D.length + 6) q) s s4 := cfr_tr (cfr_mono F2 (fun q z => Or.inl z)) (cfr_mono F4 (fun q z => Or.inr z))
    exact k _ _ ⟨by rw [hm]; rfl, fun _ => cpM_0 hm (of_decide_eq_true rfl) (of_decide_eq_true rfl) (of_decide_eq_true rfl) B hN FF (by unfold CSh C2; omega) (by unfold CSh C2; omega) (fun q a b => by unfold CSh C2; omega) (CW_of W4), cfr_mono FF (fun q z => z.elim (CSh_CTO q) (C2_CTO q))⟩
  · refine ⟨fun z => absurd (show v1.toInt = ((1 : Nat) : Int) from xeq z) q1, fun _ => ?_⟩
    have hm : tq_mk h Θ D ((14, n1, n2, n3), (ax, x), tt, f) = (2, [], [], [], []) := by rw [tq_mk_14, if_neg hh]
    exact k _ _ ⟨by rw [hm]; rfl, fun z => absurd z (by rw [hm]; exact of_decide_eq_true rfl), cfr_refl⟩

theorem fs_45_r15 {n : Nat} (hp : p = 50 ∨ p = 460) (hi : D.length < 40) (X : cpX s p th h Θ D ((15, n1, n2, n3), (ax, x), tt, f)) (hD : tq_GD h.1 D) (hG : tp_G h.1 h.2.length ((15, n1, n2, n3), (ax, x), tt, f)) (B : cpB s p (stc p D.length)) (h1 : n1 < D.length) (k : ∀ v s', cpK s p h Θ D ((15, n1, n2, n3), (ax, x), tt, f) v s' → R v s') : pl_Cl n 45 [.ref p, .ref (stc p D.length), .ref (stc p n1 + 6)] s (ps_rI R) := by
  cases n with
  | zero => exact pl_At_0
  | succ n =>
  show pl_At (n + 1) 45 0 [(0, .ref p), (1, .ref (stc p D.length)), (2, .ref (stc p n1 + 6))] [] s (ps_rI R)
  obtain ⟨⟨x1, x2', x3⟩, x4, x5, x6, x7⟩ := id X
  have hN := cpN_of x6
  obtain ⟨t0, t1, t2, t3, t4, t5, t6, t7⟩ := x6
  have hl := stc_lt hp hi
  obtain ⟨cc1, cc4, cc5, cc6, cc8⟩ := stc_c hp hi
  obtain ⟨rr2, rr4, rr6⟩ := stc_row hp hi
  have hA := arh_k x1.1.2.2.1 x1.1.2.2.2.1
  have er : (ps_i s (stc p D.length) 0).toInt = (15 : Int) := t0
  obtain ⟨Ra, aa, ab, ac, ad, ae⟩ := prem_1 X hD h1
  have Wa : cv_W s (stc p n1 + 6) (tq_r D n1) := by rw [ab]; exact ad.1
  have r5a := (stc_row hp (i := n1) (by omega)).2.2
  have la : p + 44 ≤ stc p n1 ∧ stc p n1 + 9 ≤ stc p D.length := by unfold stc; omega
  have Ga : ws (sg h.1) (tq_r D n1) [true] := by rw [ab]; exact ae.1.1
  obtain ⟨-, -, ⟨-, -, -, c3', c4', c5'⟩, -, i12, i14, i6, -⟩ := prf hp
  have h40 := Wa.2.2.1
  refine pl_45_0 (fs_92h (c := 1) r5a Wa (fun v1 hh q1 => ?_) (fun v1 hh q1 => ?_))
  · refine ⟨fun _ => ?_, fun z => absurd (show v1 = 1 from Int32.toInt_inj.mp q1) z⟩
    obtain ⟨w1, w2, w3, ea⟩ := tq_half hA Ga hh (kS_2 (by decide) (by decide))
    have hen := en_le hA (k := 1) w3 (by simp)
    have hl1 : (tq_1 (arh h.1) (tq_r D n1)).length = en (arh h.1) ((tq_r D n1).drop 1) 1 := by
      unfold tq_1
      rw [List.length_take]
      omega
    have hal : (tq_r D n1).length = 1 + ((tq_r D n1).drop 1).length := by
      have := congrArg List.length ea
      rw [List.length_cons] at this
      rw [List.length_drop]
      omega
    have h1s : ((tq_r D n1).drop 1).take (1 + (tq_1 (arh h.1) (tq_r D n1)).length - 1) = tq_1 (arh h.1) (tq_r D n1) := by
      rw [Nat.add_sub_cancel_left, hl1]
      rfl
    have h2s : ((tq_r D n1).drop (1 + (tq_1 (arh h.1) (tq_r D n1)).length)).take ((tq_r D n1).length - (1 + (tq_1 (arh h.1) (tq_r D n1)).length)) = tq_2 (arh h.1) (tq_r D n1) := by
      rw [List.take_of_length_le (by rw [List.length_drop]; omega), hl1, ← List.drop_drop]
      rfl
    have hm : tq_mk h Θ D ((15, n1, n2, n3), (ax, x), tt, f) = (0, tq_2 (arh h.1) (tq_r D n1), [], [], []) := by rw [tq_mk_15, if_pos hh]
    refine pl_nk_i (fun _ => pl_nk_i (fun _ => ?_))
    rw [c5', x2', cc6]
    refine fs_103 (r := p + 16) (r1 := stc p n1 + 6) (l := tq_r D n1) i6 r5a x3 (by omega) Ga (Or.inl rfl) Wa x1.1 (fun s2 Z F2 => pl_nk_i (fun _ => ?_))
    refine fs_104 (i := 1) i6 rfl (by decide) (fun v3 q3 => pl_nk_i (fun _ => ?_))
    have e3 : v3.toInt = (1 + (tq_1 (arh h.1) (tq_r D n1)).length : Nat) := by
      rw [q3, Z.1 1 (Nat.zero_le _) (by obtain ⟨c, t, e⟩ := ws_ne w3; rw [e, List.length_cons] at hal; omega), hl1]
    have Wa2 := cv_W_cfr Wa F2 (by unfold CSh; omega) (by unfold CSh; omega)
    have er2 : (ps_i s2 (stc p D.length) 0).toInt = (15 : Int) := by rw [(F2 (stc p D.length) (by unfold CSh; omega)).1]; exact er
    refine ⟨fun _ => ?_, fun z => absurd (show (ps_i s2 (stc p D.length) 0).toInt = (14 : Int) from xeq z) (by omega)⟩
    refine pl_nk_i (fun _ => pl_nk_i (fun _ => ?_))
    refine fs_96 (a := 1 + (tq_1 (arh h.1) (tq_r D n1)).length) (b := (tq_r D n1).length) rr6 r5a (by omega) Wa2 e3 Wa2.1 (Nat.le_refl _) (fun s4 W4 F4 => ?_)
    rw [h2s] at W4
    have FF : cfr (fun q => CSh (p + 16) q ∨ C2 (stc p D.length + 6) q) s s4 := cfr_tr (cfr_mono F2 (fun q z => Or.inl z)) (cfr_mono F4 (fun q z => Or.inr z))
    exact k _ _ ⟨by rw [hm]; rfl, fun _ => cpM_0 hm (of_decide_eq_true rfl) (of_decide_eq_true rfl) (of_decide_eq_true rfl) B hN FF (by unfold CSh C2; omega) (by unfold CSh C2; omega) (fun q a b => by unfold CSh C2; omega) (CW_of W4), cfr_mono FF (fun q z => z.elim (CSh_CTO q) (C2_CTO q))⟩
  · refine ⟨fun z => absurd (show v1.toInt = ((1 : Nat) : Int) from xeq z) q1, fun _ => ?_⟩
    have hm : tq_mk h Θ D ((15, n1, n2, n3), (ax, x), tt, f) = (2, [], [], [], []) := by rw [tq_mk_15, if_neg hh]
    exact k _ _ ⟨by rw [hm]; rfl, fun z => absurd z (by rw [hm]; exact of_decide_eq_true rfl), cfr_refl⟩

theorem fs_46_r18 {n : Nat} (hp : p = 50 ∨ p = 460) (hi : D.length < 40) (X : cpX s p th h Θ D ((18, n1, n2, n3), (ax, x), tt, f)) (hD : tq_GD h.1 D) (hG : tp_G h.1 h.2.length ((18, n1, n2, n3), (ax, x), tt, f)) (B : cpB s p (stc p D.length)) (h1 : n1 < D.length) (h2 : n2 < D.length) (h3 : n3 < D.length) (k : ∀ v s', cpK s p h Θ D ((18, n1, n2, n3), (ax, x), tt, f) v s' → R v s') : pl_Cl n 46 [.ref p, .ref (stc p D.length), .ref (stc p n1 + 6)] s (ps_rI R) := by
  cases n with
  | zero => exact pl_At_0
  | succ n =>
  show pl_At (n + 1) 46 0 [(0, .ref p), (1, .ref (stc p D.length)), (2, .ref (stc p n1 + 6))] [] s (ps_rI R)
  obtain ⟨⟨x1, x2', x3⟩, x4, x5, x6, x7⟩ := id X
  have hN := cpN_of x6
  obtain ⟨t0, t1, t2, t3, t4, t5, t6, t7⟩ := x6
  have hl := stc_lt hp hi
  obtain ⟨cc1, cc4, cc5, cc6, cc8⟩ := stc_c hp hi
  obtain ⟨rr2, rr4, rr6⟩ := stc_row hp hi
  have hA := arh_k x1.1.2.2.1 x1.1.2.2.2.1
  have er : (ps_i s (stc p D.length) 0).toInt = (18 : Int) := t0
  obtain ⟨Ra, aa, ab, ac, ad, ae⟩ := prem_1 X hD h1
  have Wa : cv_W s (stc p n1 + 6) (tq_r D n1) := by rw [ab]; exact ad.1
  have r5a := (stc_row hp (i := n1) (by omega)).2.2
  have la : p + 44 ≤ stc p n1 ∧ stc p n1 + 9 ≤ stc p D.length := by unfold stc; omega
  have Ga : ws (sg h.1) (tq_r D n1) [true] := by rw [ab]; exact ae.1.1
  obtain ⟨Rb, ba, bb, bc, bd, be⟩ := prem_1 X hD h2
  have Wb : cv_W s (stc p n2 + 6) (tq_r D n2) := by rw [bb]; exact bd.1
  have r5b := (stc_row hp (i := n2) (by omega)).2.2
  have lb : p + 44 ≤ stc p n2 ∧ stc p n2 + 9 ≤ stc p D.length := by unfold stc; omega
  have Gb : ws (sg h.1) (tq_r D n2) [true] := by rw [bb]; exact be.1.1
  obtain ⟨Rc, ca, cb, cc, cd, ce⟩ := prem_1 X hD h3
  have Wc : cv_W s (stc p n3 + 6) (tq_r D n3) := by rw [cb]; exact cd.1
  have r5c := (stc_row hp (i := n3) (by omega)).2.2
  have lc : p + 44 ≤ stc p n3 ∧ stc p n3 + 9 ≤ stc p D.length := by unfold stc; omega
  have Gc : ws (sg h.1) (tq_r D n3) [true] := by rw [cb]; exact ce.1.1
  obtain ⟨-, -, ⟨-, -, -, c3', c4', c5'⟩, -, i12, i14, i6, -⟩ := prf hp
  have h40 := Wa.2.2.1
  obtain ⟨b1, b2, b3, b4, b5⟩ := B
  have no : ¬ ((tq_r D n1).head? = some 2 ∧ tq_r D n2 = tq_r D n3) → R 2 s := fun hh => by
    have hm : tq_mk h Θ D ((18, n1, n2, n3), (ax, x), tt, f) = (2, [], [], [], []) := by rw [tq_mk_18, if_neg hh]
    exact k _ _ ⟨by rw [hm]; rfl, fun z => absurd z (by rw [hm]; exact of_decide_eq_true rfl), cfr_refl⟩
  refine pl_46_0 (fs_37 (j := 1) (i := n2) hp (stc_is hp hi) hl.2.1 rfl (by decide) (t2 (of_decide_eq_true rfl)) (by omega) (pl_nk_i (fun _ => ?_)))
  rw [(stc_c hp (i := n2) (by omega)).2.2.2.1]
  refine fs_92h (c := 2) r5a Wa (fun v1 hh q1 => ⟨fun z => absurd (show v1 = 2 from Int32.toInt_inj.mp q1) z, fun _ => ?_⟩) (fun v1 hh q1 => ⟨fun _ => no (fun y => hh y.1), fun z => absurd (show v1.toInt = ((2 : Nat) : Int) from xeq z) q1⟩)
  refine fs_37 (j := 2) (i := n3) hp (stc_is hp hi) hl.2.1 rfl (by decide) (t3 (of_decide_eq_true rfl)) (by omega) (pl_nk_i (fun _ => ?_))
  rw [(stc_c hp (i := n3) (by omega)).2.2.2.1]
  refine fs_98 r5b r5c (CW_of Wb) (CW_of Wc) (Or.inl Wb.2.2.1) (fun e => ⟨fun _ => ?_, fun z => absurd z (by decide)⟩) (fun e => ⟨fun z => absurd rfl z, fun _ => no (fun y => e y.2)⟩)
  obtain ⟨w1, w2, w3, ea⟩ := tq_half hA Ga hh (kS_2 (by decide) (by decide))
  have hen := en_le hA (k := 1) w3 (by simp)
  have hl1 : (tq_1 (arh h.1) (tq_r D n1)).length = en (arh h.1) ((tq_r D n1).drop 1) 1 := by
    unfold tq_1
    rw [List.length_take]
    omega
  have hal : (tq_r D n1).length = 1 + ((tq_r D n1).drop 1).length := by
    have := congrArg List.length ea
    rw [List.length_cons] at this
    rw [List.length_drop]
    omega
  have h1s : ((tq_r D n1).drop 1).take (1 + (tq_1 (arh h.1) (tq_r D n1)).length - 1) = tq_1 (arh h.1) (tq_r D n1) := by
    rw [Nat.add_sub_cancel_left, hl1]
    rfl
  have h2s : ((tq_r D n1).drop (1 + (tq_1 (arh h.1) (tq_r D n1)).length)).take ((tq_r D n1).length - (1 + (tq_1 (arh h.1) (tq_r D n1)).length)) = tq_2 (arh h.1) (tq_r D n1) := by
    rw [List.take_of_length_le (by rw [List.length_drop]; omega), hl1, ← List.drop_drop]
    rfl
  have hm : tq_mk h Θ D ((18, n1, n2, n3), (ax, x), tt, f) = (0, tq_r D n2, [], tq_1 (arh h.1) (tq_r D n1), tq_2 (arh h.1) (tq_r D n1)) := by rw [tq_mk_18, if_pos ⟨hh, e⟩]
  refine pl_nk_i (fun _ => pl_nk_i (fun _ => ?_))
  rw [c5', x2']
  refine fs_103 (r := p + 16) (r1 := stc p n1 + 6) (l := tq_r D n1) i6 r5a x3 (by omega) Ga (Or.inl rfl) Wa x1.1 (fun s2 Z F2 => pl_nk_i (fun _ => ?_))
  refine fs_104 (i := 1) i6 rfl (by decide) (fun v6 q6 => ?_)
  have e3 : v6.toInt = (1 + (tq_1 (arh h.1) (tq_r D n1)).length : Nat) := by
    rw [q6, Z.1 1 (Nat.zero_le _) (by obtain ⟨c, t, e⟩ := ws_ne w3; rw [e, List.length_cons] at hal; omega), hl1]
  have Wa2 := cv_W_cfr Wa F2 (by unfold CSh; omega) (by unfold CSh; omega)
  refine fs_38 (i := 1) hp rfl (by decide) ?_
  refine fs_96 (a := 1) (b := 1 + (tq_1 (arh h.1) (tq_r D n1)).length) ((prf hp).2.1 1 (by decide)).2 r5a (by unfold otc; omega) Wa2 rfl e3 (by omega) (fun s4 W4 F4 => ?_)
  rw [h1s] at W4
  have Wa4 := cv_W_cfr Wa2 F4 (by unfold C2 otc; omega) (by unfold C2 otc; omega)
  refine fs_38 (i := 2) hp rfl (by decide) (pl_nk_i (fun _ => ?_))
  refine fs_96 (a := 1 + (tq_1 (arh h.1) (tq_r D n1)).length) (b := (tq_r D n1).length) ((prf hp).2.1 2 (by decide)).2 r5a (by unfold otc; omega) Wa4 e3 Wa4.1 (Nat.le_refl _) (fun s5 W5 F5 => pl_nk_i (fun _ => ?_))
  rw [h2s] at W5
  rw [cc6]
  have Fa : cfr (fun q => CSh (p + 16) q ∨ (p + 406 ≤ q ∧ q ≤ p + 409)) s s5 := cfr_tr (cfr_tr (cfr_mono F2 (fun q z => Or.inl z)) (cfr_mono F4 (fun q z => Or.inr (by unfold C2 otc at z; omega)))) (cfr_mono F5 (fun q z => Or.inr (by unfold C2 otc at z; omega)))
  have Wb5 := cv_W_cfr Wb Fa (by unfold CSh; omega) (by unfold CSh; omega)
  refine fs_95 rr6 r5b (by omega) Wb5 (fun s6 W6 F6 => ?_)
  have Fb : cfr (fun q => (CSh (p + 16) q ∨ (p + 406 ≤ q ∧ q ≤ p + 409)) ∨ C2 (stc p D.length + 6) q) s s6 := cfr_tr (cfr_mono Fa (fun q z => Or.inl z)) (cfr_mono F6 (fun q z => Or.inr z))
  have f0 := Fb (stc p D.length) (by unfold CSh C2; omega)
  refine k _ _ ⟨by rw [hm]; rfl, fun _ => ?_, cfr_mono Fb (fun q z => by unfold CSh C2 at z; unfold CTO; omega)⟩
  unfold cpM
  rw [hm]
  refine ⟨CW_of W6, ⟨CW_cfr (b1 0 (by decide)) Fb (by unfold CSh C2 otc; omega) (by unfold CSh C2 otc; omega), CW_of (cv_W_cfr (cv_W_cfr W4 F5 (by unfold C2 otc; omega) (by unfold C2 otc; omega)) F6 (by unfold C2 otc; omega) (by unfold C2 otc; omega)), CW_of (cv_W_cfr W5 F6 (by unfold C2 otc; omega) (by unfold C2 otc; omega))⟩, ⟨by rw [f0.1]; exact b4, by rw [f0.1]; exact b5⟩, fun _ => PA_0 (by rw [f0.1]; exact b2) (by rw [f0.1]; exact b3), fun z => absurd z (of_decide_eq_true rfl), cpN_eq hN (by rw [f0.1]) (Fb (stc p D.length + 1) (by unfold CSh C2; omega)).2.2.2.1⟩

theorem fs_47_r19 {n : Nat} (hp : p = 50 ∨ p = 460) (hi : D.length < 40) (X : cpX s p th h Θ D ((19, n1, n2, n3), (ax, x), tt, f)) (hD : tq_GD h.1 D) (hG : tp_G h.1 h.2.length ((19, n1, n2, n3), (ax, x), tt, f)) (B : cpB s p (stc p D.length)) (h1 : n1 < D.length) (h2 : n2 < D.length) (k : ∀ v s', cpK s p h Θ D ((19, n1, n2, n3), (ax, x), tt, f) v s' → R v s') : pl_Cl n 47 [.ref p, .ref (stc p D.length), .ref (stc p n1 + 6), .ref (stc p n2 + 6)] s (ps_rI R) := by
  cases n with
  | zero => exact pl_At_0
  | succ n =>
  show pl_At (n + 1) 47 0 [(0, .ref p), (1, .ref (stc p D.length)), (2, .ref (stc p n1 + 6)), (3, .ref (stc p n2 + 6))] [] s (ps_rI R)
  obtain ⟨⟨x1, x2', x3⟩, x4, x5, x6, x7⟩ := id X
  have hN := cpN_of x6
  obtain ⟨t0, t1, t2, t3, t4, t5, t6, t7⟩ := x6
  have hl := stc_lt hp hi
  obtain ⟨cc1, cc4, cc5, cc6, cc8⟩ := stc_c hp hi
  obtain ⟨rr2, rr4, rr6⟩ := stc_row hp hi
  have hA := arh_k x1.1.2.2.1 x1.1.2.2.2.1
  have er : (ps_i s (stc p D.length) 0).toInt = (19 : Int) := t0
  obtain ⟨Ra, aa, ab, ac, ad, ae⟩ := prem_1 X hD h1
  have Wa : cv_W s (stc p n1 + 6) (tq_r D n1) := by rw [ab]; exact ad.1
  have r5a := (stc_row hp (i := n1) (by omega)).2.2
  have la : p + 44 ≤ stc p n1 ∧ stc p n1 + 9 ≤ stc p D.length := by unfold stc; omega
  have Ga : ws (sg h.1) (tq_r D n1) [true] := by rw [ab]; exact ae.1.1
  obtain ⟨Rb, ba, bb, bc, bd, be⟩ := prem_1 X hD h2
  have Wb : cv_W s (stc p n2 + 6) (tq_r D n2) := by rw [bb]; exact bd.1
  have r5b := (stc_row hp (i := n2) (by omega)).2.2
  have lb : p + 44 ≤ stc p n2 ∧ stc p n2 + 9 ≤ stc p D.length := by unfold stc; omega
  have Gb : ws (sg h.1) (tq_r D n2) [true] := by rw [bb]; exact be.1.1
  obtain ⟨-, -, ⟨-, -, -, c3', c4', c5'⟩, -, i12, i14, i6, -⟩ := prf hp
  have h40 := Wa.2.2.1
  have c1 : (1 : Int32).toInt = 1 := by decide
  refine pl_47_0 ?_
  refine pl_nk_i (fun _ => pl_nk_i (fun _ => ?_))
  rw [c5', x2', cc6]
  refine fs_103 (r := p + 16) (r1 := stc p n1 + 6) (l := tq_r D n1) i6 r5a x3 (by omega) Ga (Or.inl rfl) Wa x1.1 (fun s2 Z F2 => pl_nk_i (fun _ => ?_))
  have F2' : cfr (CTO p D.length) s s2 := cfr_mono F2 CSh_CTO
  have Wa2 := cv_W_cfr Wa F2 (by unfold CSh; omega) (by unfold CSh; omega)
  have Wb2 := cv_W_cfr Wb F2 (by unfold CSh; omega) (by unfold CSh; omega)
  have no : ¬ ((tq_r D n1).head? = some 3 ∧ tq_1 (arh h.1) (tq_r D n1) = tq_r D n2) → R 2 s2 := fun hh => by
    have hm : tq_mk h Θ D ((19, n1, n2, n3), (ax, x), tt, f) = (2, [], [], [], []) := by rw [tq_mk_19, if_neg hh]
    exact k _ _ ⟨by rw [hm]; rfl, fun z => absurd z (by rw [hm]; exact of_decide_eq_true rfl), F2'⟩
  refine fs_104 (i := 1) i6 rfl (by decide) (fun v2 q2 => ?_)
  refine fs_92h (c := 3) r5a Wa2 (fun v3 hh q3 => ⟨fun z => absurd (show v3 = 3 from Int32.toInt_inj.mp q3) z, fun _ => pl_nk_i (fun _ => ?_)⟩) (fun v3 hh q3 => ⟨fun _ => no (fun y => hh y.1), fun z => absurd (show v3.toInt = ((3 : Nat) : Int) from xeq z) q3⟩)
  obtain ⟨w1, w2, w3, ea⟩ := tq_half hA Ga hh (kS_2 (by decide) (by decide))
  have hen := en_le hA (k := 1) w3 (by simp)
  have hl1 : (tq_1 (arh h.1) (tq_r D n1)).length = en (arh h.1) ((tq_r D n1).drop 1) 1 := by
    unfold tq_1
    rw [List.length_take]
    omega
  have hal : (tq_r D n1).length = 1 + ((tq_r D n1).drop 1).length := by
    have := congrArg List.length ea
    rw [List.length_cons] at this
    rw [List.length_drop]
    omega
  have h1s : ((tq_r D n1).drop 1).take (1 + (tq_1 (arh h.1) (tq_r D n1)).length - 1) = tq_1 (arh h.1) (tq_r D n1) := by
    rw [Nat.add_sub_cancel_left, hl1]
    rfl
  have h2s : ((tq_r D n1).drop (1 + (tq_1 (arh h.1) (tq_r D n1)).length)).take ((tq_r D n1).length - (1 + (tq_1 (arh h.1) (tq_r D n1)).length)) = tq_2 (arh h.1) (tq_r D n1) := by
    rw [List.take_of_length_le (by rw [List.length_drop]; omega), hl1, ← List.drop_drop]
    rfl
  have e3 : v2.toInt = (1 + (tq_1 (arh h.1) (tq_r D n1)).length : Nat) := by
    rw [q2, Z.1 1 (Nat.zero_le _) (by obtain ⟨c, t, e⟩ := ws_ne w3; rw [e, List.length_cons] at hal; omega), hl1]
  have e4 : (v2 - 1).toInt = ((tq_1 (arh h.1) (tq_r D n1)).length : Nat) := by rw [xIs (by omega) (by omega), e3, c1]; omega
  have eb2 := Wb2.1
  refine ⟨fun z => no (fun y => ?_), fun z => ?_⟩
  · have z := xne z
    rw [y.2] at e4
    omega
  · have z := xeq z
    have el : (tq_1 (arh h.1) (tq_r D n1)).length = (tq_r D n2).length := by omega
    refine fs_99 (b := 1) (e := 1 + (tq_1 (arh h.1) (tq_r D n1)).length) (p := 0) r5a Wa2 r5b Wb2 rfl e3 (by omega) rfl (by decide) (fun y => ⟨fun _ => ?_, fun u => absurd u (by decide)⟩) (fun y => ⟨fun u => absurd rfl u, fun _ => no (fun u => y ?_)⟩)
    · rw [h1s, Nat.add_sub_cancel_left, el, List.drop_zero, List.take_length] at y
      have hm : tq_mk h Θ D ((19, n1, n2, n3), (ax, x), tt, f) = (0, tq_2 (arh h.1) (tq_r D n1), [], [], []) := by rw [tq_mk_19, if_pos ⟨hh, y⟩]
      refine pl_nk_i (fun _ => pl_nk_i (fun _ => ?_))
      refine fs_96 (a := 1 + (tq_1 (arh h.1) (tq_r D n1)).length) (b := (tq_r D n1).length) rr6 r5a (by omega) Wa2 e3 Wa2.1 (Nat.le_refl _) (fun s4 W4 F4 => ?_)
      rw [h2s] at W4
      have FF : cfr (fun q => CSh (p + 16) q ∨ C2 (stc p D.length + 6) q) s s4 := cfr_tr (cfr_mono F2 (fun q z => Or.inl z)) (cfr_mono F4 (fun q z => Or.inr z))
      exact k _ _ ⟨by rw [hm]; rfl, fun _ => cpM_0 hm (of_decide_eq_true rfl) (of_decide_eq_true rfl) (of_decide_eq_true rfl) B hN FF (by unfold CSh C2; omega) (by unfold CSh C2; omega) (fun q a b => by unfold CSh C2; omega) (CW_of W4), cfr_mono FF (fun q z => z.elim (CSh_CTO q) (C2_CTO q))⟩
    · rw [h1s, Nat.add_sub_cancel_left, el, List.drop_zero, List.take_length]
      exact u.2

theorem fs_48_r26 {n : Nat} (hp : p = 50 ∨ p = 460) (hi : D.length < 40) (X : cpX s p th h Θ D ((26, n1, n2, n3), (ax, x), tt, f)) (hD : tq_GD h.1 D) (hG : tp_G h.1 h.2.length ((26, n1, n2, n3), (ax, x), tt, f)) (B : cpB s p (stc p D.length)) (h1 : n1 < D.length) (k : ∀ v s', cpK s p h Θ D ((26, n1, n2, n3), (ax, x), tt, f) v s' → R v s') : pl_Cl n 48 [.ref p, .ref (stc p D.length), .ref (stc p n1 + 6)] s (ps_rI R) := by
  cases n with
  | zero => exact pl_At_0
  | succ n =>
  show pl_At (n + 1) 48 0 [(0, .ref p), (1, .ref (stc p D.length)), (2, .ref (stc p n1 + 6))] [] s (ps_rI R)
  obtain ⟨⟨x1, x2', x3⟩, x4, x5, x6, x7⟩ := id X
  have hN := cpN_of x6
  obtain ⟨t0, t1, t2, t3, t4, t5, t6, t7⟩ := x6
  have hl := stc_lt hp hi
  obtain ⟨cc1, cc4, cc5, cc6, cc8⟩ := stc_c hp hi
  obtain ⟨rr2, rr4, rr6⟩ := stc_row hp hi
  have hA := arh_k x1.1.2.2.1 x1.1.2.2.2.1
  have er : (ps_i s (stc p D.length) 0).toInt = (26 : Int) := t0
  obtain ⟨Ra, aa, ab, ac, ad, ae⟩ := prem_1 X hD h1
  have Wa : cv_W s (stc p n1 + 6) (tq_r D n1) := by rw [ab]; exact ad.1
  have r5a := (stc_row hp (i := n1) (by omega)).2.2
  have la : p + 44 ≤ stc p n1 ∧ stc p n1 + 9 ≤ stc p D.length := by unfold stc; omega
  have Ga : ws (sg h.1) (tq_r D n1) [true] := by rw [ab]; exact ae.1.1
  have W := t7 (of_decide_eq_true rfl)
  refine pl_48_0 (fs_92h (c := 0) r5a Wa (fun v1 hh q1 => ⟨fun _ => ?_, fun z => absurd (show v1 = 0 from Int32.toInt_inj.mp q1) z⟩) (fun v1 hh q1 => ⟨fun z => absurd (show v1.toInt = ((0 : Nat) : Int) from xeq z) q1, fun _ => ?_⟩))
  · refine pl_nk_i (fun _ => pl_nk_i (fun _ => ?_))
    rw [cc6, cc5]
    refine fs_95 rr6 rr4 (by omega) W (fun s2 W2 F2 => pl_nk_i (fun _ => ?_))
    have er2 : (ps_i s2 (stc p D.length) 0).toInt = (26 : Int) := by rw [(F2 (stc p D.length) (by unfold C2; omega)).1]; exact er
    have hm : tq_mk h Θ D ((26, n1, n2, n3), (ax, x), tt, f) = (0, f, [], [], []) := by rw [tq_mk_26, if_pos hh]
    refine ⟨fun _ => ?_, fun z => absurd (show (ps_i s2 (stc p D.length) 0).toInt = (27 : Int) from xeq z) (by omega)⟩
    exact k _ _ ⟨by rw [hm]; rfl, fun _ => cpM_0 hm (of_decide_eq_true rfl) (of_decide_eq_true rfl) (of_decide_eq_true rfl) B hN F2 (by unfold C2; omega) (by unfold C2; omega) (fun q a b => by unfold C2; omega) (CW_of W2), cfr_mono F2 C2_CTO⟩
  · have hm : tq_mk h Θ D ((26, n1, n2, n3), (ax, x), tt, f) = (2, [], [], [], []) := by rw [tq_mk_26, if_neg hh]
    exact k _ _ ⟨by rw [hm]; rfl, fun z => absurd z (by rw [hm]; exact of_decide_eq_true rfl), cfr_refl⟩

theorem fs_48_r27 {n : Nat} (hp : p = 50 ∨ p = 460) (hi : D.length < 40) (X : cpX s p th h Θ D ((27, n1, n2, n3), (ax, x), tt, f)) (hD : tq_GD h.1 D) (hG : tp_G h.1 h.2.length ((27, n1, n2, n3), (ax, x), tt, f)) (B : cpB s p (stc p D.length)) (h1 : n1 < D.length) (k : ∀ v s', cpK s p h Θ D ((27, n1, n2, n3), (ax, x), tt, f) v s' → R v s') : pl_Cl n 48 [.ref p, .ref (stc p D.length), .ref (stc p n1 + 6)] s (ps_rI R) := by
  cases n with
  | zero => exact pl_At_0
  | succ n =>
  show pl_At (n + 1) 48 0 [(0, .ref p), (1, .ref (stc p D.length)), (2, .ref (stc p n1 + 6))] [] s (ps_rI R)
  obtain ⟨⟨x1, x2', x3⟩, x4, x5, x6, x7⟩ := id X
  have hN := cpN_of x6
  obtain ⟨t0, t1, t2, t3, t4, t5, t6, t7⟩ := x6
  have hl := stc_lt hp hi
  obtain ⟨cc1, cc4, cc5, cc6, cc8⟩ := stc_c hp hi
  obtain ⟨rr2, rr4, rr6⟩ := stc_row hp hi
  have hA := arh_k x1.1.2.2.1 x1.1.2.2.2.1
  have er : (ps_i s (stc p D.length) 0).toInt = (27 : Int) := t0
  obtain ⟨Ra, aa, ab, ac, ad, ae⟩ := prem_1 X hD h1
  have Wa : cv_W s (stc p n1 + 6) (tq_r D n1) := by rw [ab]; exact ad.1
  have r5a := (stc_row hp (i := n1) (by omega)).2.2
  have la : p + 44 ≤ stc p n1 ∧ stc p n1 + 9 ≤ stc p D.length := by unfold stc; omega
  have Ga : ws (sg h.1) (tq_r D n1) [true] := by rw [ab]; exact ae.1.1
  have W := t7 (of_decide_eq_true rfl)
  refine pl_48_0 (fs_92h (c := 0) r5a Wa (fun v1 hh q1 => ⟨fun _ => ?_, fun z => absurd (show v1 = 0 from Int32.toInt_inj.mp q1) z⟩) (fun v1 hh q1 => ⟨fun z => absurd (show v1.toInt = ((0 : Nat) : Int) from xeq z) q1, fun _ => ?_⟩))
  · refine pl_nk_i (fun _ => pl_nk_i (fun _ => ?_))
    rw [cc6, cc5]
    refine fs_95 rr6 rr4 (by omega) W (fun s2 W2 F2 => pl_nk_i (fun _ => ?_))
    have er2 : (ps_i s2 (stc p D.length) 0).toInt = (27 : Int) := by rw [(F2 (stc p D.length) (by unfold C2; omega)).1]; exact er
    have hm : tq_mk h Θ D ((27, n1, n2, n3), (ax, x), tt, f) = (0, f, 3 :: (f ++ [0]), [], []) := by rw [tq_mk_27, if_pos hh]
    obtain ⟨b1, b2, b3, b4, b5⟩ := B
    have o5 := ((prf hp).2.1 0 (by decide)).2
    refine ⟨fun z => absurd er2 (xne z), fun _ => ?_⟩
    refine fs_38 (i := 0) hp rfl (by decide) (fs_91 ?_)
    have G0 : cfr (C2 (otc p 0)) s2 (ps_ui (ps_ui s2 (otc p 0) 1 0) (otc p 0) 2 0) := cfr_i (cfr_i cfr_refl (Or.inl rfl)) (Or.inl rfl)
    refine fs_38 (i := 0) hp rfl (by decide) (fs_93w (c := 3) o5 (CW_of CW_0) rfl (fun s3 C3 F3 => ?_))
    have G1 := cfr_tr G0 F3
    refine fs_38 (i := 0) hp rfl (by decide) (pl_nk_i (fun _ => pl_nk_i (fun _ => pl_nk_i (fun _ => ?_))))
    have W3 := cv_W_cfr (cv_W_cfr W F2 (by unfold C2; omega) (by unfold C2; omega)) G1 (by unfold C2 otc; omega) (by unfold C2 otc; omega)
    refine fs_94w (a := 0) (b := f.length) o5 rr4 (by unfold otc; omega) W3 C3 rfl W3.1 (Nat.le_refl _) (fun s4 C4 F4 => ?_)
    have G2 := cfr_tr G1 F4
    refine fs_38 (i := 0) hp rfl (by decide) (fs_93w (c := 0) o5 C4 rfl (fun s5 C5 F5 => ?_))
    have G3 := cfr_tr G2 F5
    rw [List.drop_zero, Nat.sub_zero, List.take_length] at C5
    have C5 : CW s5 (otc p 0) (3 :: (f ++ [0])) := C5
    have f0 := F2 (stc p D.length) (by unfold C2; omega)
    have g0 := G3 (stc p D.length) (by unfold C2 otc; omega)
    have ou : ∀ k, 1 ≤ k → k < 3 → CW s5 (otc p k) [] := fun k h1 hk => CW_cfr (CW_cfr (b1 k hk) F2 (by unfold C2 otc; omega) (by unfold C2 otc; omega)) G3 (by unfold C2 otc; omega) (by unfold C2 otc; omega)
    refine k _ _ ⟨by rw [hm]; rfl, fun _ => ?_, cfr_tr (cfr_mono F2 C2_CTO) (cfr_mono G3 (C2_out (by decide)))⟩
    unfold cpM
    rw [hm]
    exact ⟨CW_of (cv_W_cfr W2 G3 (by unfold C2 otc; omega) (by unfold C2 otc; omega)), ⟨C5, ou 1 (by decide) (by decide), ou 2 (by decide) (by decide)⟩, ⟨by rw [g0.1, f0.1]; exact b4, by rw [g0.1, f0.1]; exact b5⟩, fun _ => PA_0 (by rw [g0.1, f0.1]; exact b2) (by rw [g0.1, f0.1]; exact b3), fun z => absurd z (of_decide_eq_true rfl), cpN_eq hN (by rw [g0.1, f0.1]) (((G3 (stc p D.length + 1) (by unfold C2 otc; omega)).2.2.2.1).trans (F2 (stc p D.length + 1) (by unfold C2; omega)).2.2.2.1)⟩
  · have hm : tq_mk h Θ D ((27, n1, n2, n3), (ax, x), tt, f) = (2, [], [], [], []) := by rw [tq_mk_27, if_neg hh]
    exact k _ _ ⟨by rw [hm]; rfl, fun z => absurd z (by rw [hm]; exact of_decide_eq_true rfl), cfr_refl⟩

theorem fs_49_r21 {n : Nat} (hp : p = 50 ∨ p = 460) (hi : D.length < 40) (X : cpX s p th h Θ D ((21, n1, n2, n3), (ax, x), tt, f)) (hD : tq_GD h.1 D) (hG : tp_G h.1 h.2.length ((21, n1, n2, n3), (ax, x), tt, f)) (B : cpB s p (stc p D.length)) (h1 : n1 < D.length) (k : ∀ v s', cpK s p h Θ D ((21, n1, n2, n3), (ax, x), tt, f) v s' → R v s') : pl_Cl n 49 [.ref p, .ref (stc p D.length), .ref (stc p n1 + 6)] s (ps_rI R) := by
  cases n with
  | zero => exact pl_At_0
  | succ n =>
  show pl_At (n + 1) 49 0 [(0, .ref p), (1, .ref (stc p D.length)), (2, .ref (stc p n1 + 6))] [] s (ps_rI R)
  obtain ⟨⟨x1, x2', x3⟩, x4, x5, x6, x7⟩ := id X
  have hN := cpN_of x6
  obtain ⟨t0, t1, t2, t3, t4, t5, t6, t7⟩ := x6
  have hl := stc_lt hp hi
  obtain ⟨cc1, cc4, cc5, cc6, cc8⟩ := stc_c hp hi
  obtain ⟨rr2, rr4, rr6⟩ := stc_row hp hi
  have hA := arh_k x1.1.2.2.1 x1.1.2.2.2.1
  have er : (ps_i s (stc p D.length) 0).toInt = (21 : Int) := t0
  obtain ⟨Ra, aa, ab, ac, ad, ae⟩ := prem_1 X hD h1
  have Wa : cv_W s (stc p n1 + 6) (tq_r D n1) := by rw [ab]; exact ad.1
  have r5a := (stc_row hp (i := n1) (by omega)).2.2
  have la : p + 44 ≤ stc p n1 ∧ stc p n1 + 9 ≤ stc p D.length := by unfold stc; omega
  have Ga : ws (sg h.1) (tq_r D n1) [true] := by rw [ab]; exact ae.1.1
  obtain ⟨-, -, ⟨-, -, -, c3', c4', c5'⟩, -, i12, i14, i6, -⟩ := prf hp
  have h40 := Wa.2.2.1
  have tn : (ps_a s (stc p D.length + 1) 0).toInt = n1 := t1 (of_decide_eq_true rfl)
  have t5 := t5 (Or.inl rfl)
  have hx : x < 12 := hG.2.2.2.1 (Or.inl rfl)
  have hb0 : (tq_a D n1).any (fun y => !decide (y = []) && y.contains (60 + x)) = (tq_a D n1).any (fun y => y.contains (60 + x)) := by
    congr 1
    funext y
    cases y with
    | nil => rfl
    | cons c t => rw [decide_eq_false (fun e => by cases e)]; rfl
  rw [ac] at hb0
  refine pl_49_0 (fs_37 (j := 0) (i := n1) hp (stc_is hp hi) hl.2.1 rfl (by decide) tn (by omega) (pl_nk_i (fun _ => pl_nk_i (fun _ => ?_))))
  rw [c3']
  refine fs_51 (oo := []) hp x5 aa i12 (CW_of x7) t5 (fun y => ⟨fun z => absurd z (by decide), fun _ => ?_⟩) (fun y => ⟨fun _ => ?_, fun z => absurd rfl z⟩)
  · rw [hb0] at y
    have hm : tq_mk h Θ D ((21, n1, n2, n3), (ax, x), tt, f) = (3, [], [], [], []) := by rw [tq_mk_21, ac, if_pos y]
    exact k _ _ ⟨by rw [hm]; rfl, fun z => absurd z (by rw [hm]; exact of_decide_eq_true rfl), cfr_refl⟩
  · rw [hb0] at y
    have hm : tq_mk h Θ D ((21, n1, n2, n3), (ax, x), tt, f) = (0, tq_ge (arh h.1) (tq_r D n1) x, [], [], []) := by rw [tq_mk_21, ac, if_neg y]
    refine pl_nk_i (fun _ => pl_nk_i (fun _ => ?_))
    rw [c5', x2', cc6]
    refine fs_103 (r := p + 16) (r1 := stc p n1 + 6) (l := tq_r D n1) i6 r5a x3 (by omega) Ga (Or.inl rfl) Wa x1.1 (fun s2 Z F2 => pl_nk_i (fun _ => fs_91 (pl_nk_i (fun _ => ?_))))
    have G0 : cfr (C2 (stc p D.length + 6)) s2 (ps_ui (ps_ui s2 (stc p D.length + 6) 1 0) (stc p D.length + 6) 2 0) := cfr_i (cfr_i cfr_refl (Or.inl rfl)) (Or.inl rfl)
    refine fs_93w (c := 4) rr6 (CW_of CW_0) rfl (fun s3 C3 F3 => ?_)
    have G1 := cfr_tr G0 F3
    have Wa3 := cv_W_cfr (cv_W_cfr Wa F2 (by unfold CSh; omega) (by unfold CSh; omega)) G1 (by unfold C2; omega) (by unfold C2; omega)
    refine fs_49_52 (x := x) (D := D) (j := n1) (s0 := s3) hp hi h1 Wa3 (by rw [(G1 (stc p D.length) (by unfold C2; omega)).1, (F2 (stc p D.length) (by unfold CSh; omega)).1]; exact t5) (ly_len hA Ga rfl) (fun i d hd => by rw [(G1 (p + 19) (by unfold C2; omega)).2.2.2.1]; exact (Z.2.2.1 i d hd).2) (ly_b h40) (by omega) (fun s' C F => ?_) n (i := 0) (L := [4]) rfl C3 rfl cfr_refl
    have FF : cfr (fun q => CSh (p + 16) q ∨ C2 (stc p D.length + 6) q) s s' := cfr_tr (cfr_mono F2 (fun q z => Or.inl z)) (cfr_mono (cfr_tr G1 F) (fun q z => Or.inr z))
    exact k _ _ ⟨by rw [hm]; rfl, fun _ => cpM_0 hm (of_decide_eq_true rfl) (of_decide_eq_true rfl) (of_decide_eq_true rfl) B hN FF (by unfold CSh C2; omega) (by unfold CSh C2; omega) (fun q a b => by unfold CSh C2; omega) C, cfr_mono FF (fun q z => z.elim (CSh_CTO q) (C2_CTO q))⟩

theorem fs_50_r22 {n : Nat} (hp : p = 50 ∨ p = 460) (hi : D.length < 40) (X : cpX s p th h Θ D ((22, n1, n2, n3), (ax, x), tt, f)) (hD : tq_GD h.1 D) (hG : tp_G h.1 h.2.length ((22, n1, n2, n3), (ax, x), tt, f)) (B : cpB s p (stc p D.length)) (h1 : n1 < D.length) (k : ∀ v s', cpK s p h Θ D ((22, n1, n2, n3), (ax, x), tt, f) v s' → R v s') : pl_Cl n 50 [.ref p, .ref (stc p D.length), .ref (stc p n1 + 6)] s (ps_rI R) := by
  cases n with
  | zero => exact pl_At_0
  | succ n =>
  show pl_At (n + 1) 50 0 [(0, .ref p), (1, .ref (stc p D.length)), (2, .ref (stc p n1 + 6))] [] s (ps_rI R)
  obtain ⟨⟨x1, x2', x3⟩, x4, x5, x6, x7⟩ := id X
  have hN := cpN_of x6
  obtain ⟨t0, t1, t2, t3, t4, t5, t6, t7⟩ := x6
  have hl := stc_lt hp hi
  obtain ⟨cc1, cc4, cc5, cc6, cc8⟩ := stc_c hp hi
  obtain ⟨rr2, rr4, rr6⟩ := stc_row hp hi
  have hA := arh_k x1.1.2.2.1 x1.1.2.2.2.1
  have er : (ps_i s (stc p D.length) 0).toInt = (22 : Int) := t0
  obtain ⟨Ra, aa, ab, ac, ad, ae⟩ := prem_1 X hD h1
  have Wa : cv_W s (stc p n1 + 6) (tq_r D n1) := by rw [ab]; exact ad.1
  have r5a := (stc_row hp (i := n1) (by omega)).2.2
  have la : p + 44 ≤ stc p n1 ∧ stc p n1 + 9 ≤ stc p D.length := by unfold stc; omega
  have Ga : ws (sg h.1) (tq_r D n1) [true] := by rw [ab]; exact ae.1.1
  obtain ⟨-, -, ⟨-, -, -, c3', c4', c5'⟩, -, i12, i14, i6, -⟩ := prf hp
  have h40 := Wa.2.2.1
  have W := t6 (of_decide_eq_true rfl)
  refine pl_50_0 (fs_92h (c := 4) r5a Wa (fun v1 hh q1 => ⟨fun _ => ?_, fun z => absurd (show v1 = 4 from Int32.toInt_inj.mp q1) z⟩) (fun v1 hh q1 => ⟨fun z => absurd (show v1.toInt = ((4 : Nat) : Int) from xeq z) q1, fun _ => ?_⟩))
  · have hm : tq_mk h Θ D ((22, n1, n2, n3), (ax, x), tt, f) = (0, tq_in (arh h.1) (tq_r D n1) tt, [], [], []) := by rw [tq_mk_22, if_pos hh]
    refine pl_nk_i (fun _ => pl_nk_i (fun _ => ?_))
    rw [cc6, cc4]
    refine fs_52 hp x3 x2' x1.1 rr6 r5a rr2 (by unfold apart; omega) (by unfold apart; omega) (by omega) Wa Ga W (fun s2 C FF => ?_)
    exact k _ _ ⟨by rw [hm]; rfl, fun _ => cpM_0 hm (of_decide_eq_true rfl) (of_decide_eq_true rfl) (of_decide_eq_true rfl) B hN FF (by unfold CPI CSh C2; omega) (by unfold CPI CSh C2; omega) (fun q a b => by unfold CPI CSh C2; omega) C, cfr_mono FF (fun q z => z.elim (C2_CTO q) (CSh_CTO q))⟩
  · have hm : tq_mk h Θ D ((22, n1, n2, n3), (ax, x), tt, f) = (2, [], [], [], []) := by rw [tq_mk_22, if_neg hh]
    exact k _ _ ⟨by rw [hm]; rfl, fun z => absurd z (by rw [hm]; exact of_decide_eq_true rfl), cfr_refl⟩

theorem fs_53_r23 {n : Nat} (hp : p = 50 ∨ p = 460) (hi : D.length < 40) (X : cpX s p th h Θ D ((23, n1, n2, n3), (ax, x), tt, f)) (hD : tq_GD h.1 D) (hG : tp_G h.1 h.2.length ((23, n1, n2, n3), (ax, x), tt, f)) (B : cpB s p (stc p D.length)) (h1 : n1 < D.length) (k : ∀ v s', cpK s p h Θ D ((23, n1, n2, n3), (ax, x), tt, f) v s' → R v s') : pl_Cl n 53 [.ref p, .ref (stc p D.length), .ref (stc p n1 + 6)] s (ps_rI R) := by
  cases n with
  | zero => exact pl_At_0
  | succ n =>
  show pl_At (n + 1) 53 0 [(0, .ref p), (1, .ref (stc p D.length)), (2, .ref (stc p n1 + 6))] [] s (ps_rI R)
  obtain ⟨⟨x1, x2', x3⟩, x4, x5, x6, x7⟩ := id X
  have hN := cpN_of x6
  obtain ⟨t0, t1, t2, t3, t4, t5, t6, t7⟩ := x6
  have hl := stc_lt hp hi
  obtain ⟨cc1, cc4, cc5, cc6, cc8⟩ := stc_c hp hi
  obtain ⟨rr2, rr4, rr6⟩ := stc_row hp hi
  have hA := arh_k x1.1.2.2.1 x1.1.2.2.2.1
  have er : (ps_i s (stc p D.length) 0).toInt = (23 : Int) := t0
  obtain ⟨Ra, aa, ab, ac, ad, ae⟩ := prem_1 X hD h1
  have Wa : cv_W s (stc p n1 + 6) (tq_r D n1) := by rw [ab]; exact ad.1
  have r5a := (stc_row hp (i := n1) (by omega)).2.2
  have la : p + 44 ≤ stc p n1 ∧ stc p n1 + 9 ≤ stc p D.length := by unfold stc; omega
  have Ga : ws (sg h.1) (tq_r D n1) [true] := by rw [ab]; exact ae.1.1
  obtain ⟨-, -, ⟨-, -, -, c3', c4', c5'⟩, -, i12, i14, i6, -⟩ := prf hp
  have h40 := Wa.2.2.1
  have Wt := t6 (of_decide_eq_true rfl)
  have W := t7 (of_decide_eq_true rfl)
  have Gf := (hG.2.2.1 (of_decide_eq_true rfl)).1
  refine pl_53_0 (pl_nk_i (fun _ => ?_))
  rw [cc5]
  refine fs_92h (c := 5) rr4 W (fun v1 hh q1 => ⟨fun _ => ?_, fun z => absurd (show v1 = 5 from Int32.toInt_inj.mp q1) z⟩) (fun v1 hh q1 => ⟨fun z => absurd (show v1.toInt = ((5 : Nat) : Int) from xeq z) q1, fun _ => ?_⟩)
  · refine pl_nk_i (fun _ => pl_nk_i (fun _ => pl_nk_i (fun _ => ?_)))
    rw [c4', cc4, cc6]
    refine fs_52 hp x3 x2' x1.1 i14 rr4 rr2 (by unfold apart; omega) (by unfold apart; omega) (by omega) W Gf Wt (fun s2 C F2 => pl_nk_i (fun _ => ?_))
    have F2' : cfr (CTO p D.length) s s2 := cfr_mono F2 (fun q z => by unfold CPI C2 CSh at z; unfold CTO; omega)
    have Wa2 := cv_W_cfr Wa F2 (by unfold CPI C2 CSh; omega) (by unfold CPI C2 CSh; omega)
    refine fs_98 i14 r5a C (CW_of Wa2) (Or.inr Wa2.2.2.1) (fun e => ⟨fun _ => ?_, fun z => absurd z (by decide)⟩) (fun e => ⟨fun z => absurd rfl z, fun _ => ?_⟩)
    · have hm : tq_mk h Θ D ((23, n1, n2, n3), (ax, x), tt, f) = (0, f, [], [], []) := by rw [tq_mk_23, if_pos ⟨hh, e⟩]
      refine pl_nk_i (fun _ => pl_nk_i (fun _ => ?_))
      have W2 := cv_W_cfr W F2 (by unfold CPI C2 CSh; omega) (by unfold CPI C2 CSh; omega)
      refine fs_95 rr6 rr4 (by omega) W2 (fun s4 W4 F4 => ?_)
      have FF : cfr (fun q => CPI p (p + 14) q ∨ C2 (stc p D.length + 6) q) s s4 := cfr_tr (cfr_mono F2 (fun q z => Or.inl z)) (cfr_mono F4 (fun q z => Or.inr z))
      exact k _ _ ⟨by rw [hm]; rfl, fun _ => cpM_0 hm (of_decide_eq_true rfl) (of_decide_eq_true rfl) (of_decide_eq_true rfl) B hN FF (by unfold CPI CSh C2; omega) (by unfold CPI CSh C2; omega) (fun q a b => by unfold CPI CSh C2; omega) (CW_of W4), cfr_mono FF (fun q z => by unfold CPI CSh C2 at z; unfold CTO; omega)⟩
    · have hm : tq_mk h Θ D ((23, n1, n2, n3), (ax, x), tt, f) = (4, [], [], [], []) := by rw [tq_mk_23, if_neg (fun y => e y.2)]
      exact k _ _ ⟨by rw [hm]; rfl, fun z => absurd z (by rw [hm]; exact of_decide_eq_true rfl), F2'⟩
  · have hm : tq_mk h Θ D ((23, n1, n2, n3), (ax, x), tt, f) = (4, [], [], [], []) := by rw [tq_mk_23, if_neg (fun y => hh y.1)]
    exact k _ _ ⟨by rw [hm]; rfl, fun z => absurd z (by rw [hm]; exact of_decide_eq_true rfl), cfr_refl⟩

theorem fs_55_r25 {n : Nat} (hp : p = 50 ∨ p = 460) (hi : D.length < 40) (X : cpX s p th h Θ D ((25, n1, n2, n3), (ax, x), tt, f)) (hD : tq_GD h.1 D) (hG : tp_G h.1 h.2.length ((25, n1, n2, n3), (ax, x), tt, f)) (B : cpB s p (stc p D.length)) (h1 : n1 < D.length) (h2 : n2 < D.length) (k : ∀ v s', cpK s p h Θ D ((25, n1, n2, n3), (ax, x), tt, f) v s' → R v s') : pl_Cl n 55 [.ref p, .ref (stc p D.length), .ref (stc p n1 + 6), .ref (stc p n2 + 6)] s (ps_rI R) := by
  cases n with
  | zero => exact pl_At_0
  | succ n =>
  show pl_At (n + 1) 55 0 [(0, .ref p), (1, .ref (stc p D.length)), (2, .ref (stc p n1 + 6)), (3, .ref (stc p n2 + 6))] [] s (ps_rI R)
  obtain ⟨⟨x1, x2', x3⟩, x4, x5, x6, x7⟩ := id X
  have hN := cpN_of x6
  obtain ⟨t0, t1, t2, t3, t4, t5, t6, t7⟩ := x6
  have hl := stc_lt hp hi
  obtain ⟨cc1, cc4, cc5, cc6, cc8⟩ := stc_c hp hi
  obtain ⟨rr2, rr4, rr6⟩ := stc_row hp hi
  have hA := arh_k x1.1.2.2.1 x1.1.2.2.2.1
  have er : (ps_i s (stc p D.length) 0).toInt = (25 : Int) := t0
  obtain ⟨Ra, aa, ab, ac, ad, ae⟩ := prem_1 X hD h1
  have Wa : cv_W s (stc p n1 + 6) (tq_r D n1) := by rw [ab]; exact ad.1
  have r5a := (stc_row hp (i := n1) (by omega)).2.2
  have la : p + 44 ≤ stc p n1 ∧ stc p n1 + 9 ≤ stc p D.length := by unfold stc; omega
  have Ga : ws (sg h.1) (tq_r D n1) [true] := by rw [ab]; exact ae.1.1
  obtain ⟨Rb, ba, bb, bc, bd, be⟩ := prem_1 X hD h2
  have Wb : cv_W s (stc p n2 + 6) (tq_r D n2) := by rw [bb]; exact bd.1
  have r5b := (stc_row hp (i := n2) (by omega)).2.2
  have lb : p + 44 ≤ stc p n2 ∧ stc p n2 + 9 ≤ stc p D.length := by unfold stc; omega
  have Gb : ws (sg h.1) (tq_r D n2) [true] := by rw [bb]; exact be.1.1
  obtain ⟨-, -, ⟨-, -, -, c3', c4', c5'⟩, -, i12, i14, i6, -⟩ := prf hp
  have h40 := Wa.2.2.1
  have W := t7 (of_decide_eq_true rfl)
  refine pl_55_0 (fs_92h (c := 6) r5a Wa (fun v1 hh q1 => ⟨fun _ => pl_nk_i (fun _ => ?_), fun z => absurd (show v1 = 6 from Int32.toInt_inj.mp q1) z⟩) (fun v1 hh q1 => ⟨fun z => absurd (show v1.toInt = ((6 : Nat) : Int) from xeq z) q1, fun _ => ?_⟩))
  · rw [cc5, cc6]
    refine fs_56 hp x3 x2' x1.1 rr4 r5a r5b (by omega) (by omega) (by omega) W Wa Wb Ga hh (fun s2 q => ⟨fun _ => ?_, fun z => absurd z (by decide)⟩) (fun s2 q => ⟨fun z => absurd rfl z, fun _ => ?_⟩)
    · obtain ⟨e, F2⟩ := q
      have hm : tq_mk h Θ D ((25, n1, n2, n3), (ax, x), tt, f) = (0, f, [], [], []) := by rw [tq_mk_25, if_pos hh, if_pos e]
      refine pl_nk_i (fun _ => pl_nk_i (fun _ => ?_))
      have W2 := cv_W_cfr W F2 (by unfold CSh; omega) (by unfold CSh; omega)
      refine fs_95 rr6 rr4 (by omega) W2 (fun s4 W4 F4 => ?_)
      have FF : cfr (fun q => CSh (p + 16) q ∨ C2 (stc p D.length + 6) q) s s4 := cfr_tr (cfr_mono F2 (fun q z => Or.inl z)) (cfr_mono F4 (fun q z => Or.inr z))
      exact k _ _ ⟨by rw [hm]; rfl, fun _ => cpM_0 hm (of_decide_eq_true rfl) (of_decide_eq_true rfl) (of_decide_eq_true rfl) B hN FF (by unfold CSh C2; omega) (by unfold CSh C2; omega) (fun q a b => by unfold CSh C2; omega) (CW_of W4), cfr_mono FF (fun q z => z.elim (CSh_CTO q) (C2_CTO q))⟩
    · obtain ⟨e, F2⟩ := q
      have hm : tq_mk h Θ D ((25, n1, n2, n3), (ax, x), tt, f) = (4, [], [], [], []) := by rw [tq_mk_25, if_pos hh, if_neg e]
      exact k _ _ ⟨by rw [hm]; rfl, fun z => absurd z (by rw [hm]; exact of_decide_eq_true rfl), cfr_mono F2 CSh_CTO⟩
  · have hm : tq_mk h Θ D ((25, n1, n2, n3), (ax, x), tt, f) = (2, [], [], [], []) := by rw [tq_mk_25, if_neg hh]
    exact k _ _ ⟨by rw [hm]; rfl, fun z => absurd z (by rw [hm]; exact of_decide_eq_true rfl), cfr_refl⟩

theorem fs_54_r24 {n : Nat} (hp : p = 50 ∨ p = 460) (hi : D.length < 40) (X : cpX s p th h Θ D ((24, n1, n2, n3), (ax, x), tt, f)) (hD : tq_GD h.1 D) (hG : tp_G h.1 h.2.length ((24, n1, n2, n3), (ax, x), tt, f)) (B : cpB s p (stc p D.length)) (h1 : n1 < D.length) (h2 : n2 < D.length) (k : ∀ v s', cpK s p h Θ D ((24, n1, n2, n3), (ax, x), tt, f) v s' → R v s') : pl_Cl n 54 [.ref p, .ref (stc p D.length), .ref (stc p n1 + 6), .ref (stc p n2)] s (ps_rI R) := by
  cases n with
  | zero => exact pl_At_0
  | succ n =>
  show pl_At (n + 1) 54 0 [(0, .ref p), (1, .ref (stc p D.length)), (2, .ref (stc p n1 + 6)), (3, .ref (stc p n2))] [] s (ps_rI R)
  obtain ⟨⟨x1, x2', x3⟩, x4, x5, x6, x7⟩ := id X
  have hN := cpN_of x6
  obtain ⟨t0, t1, t2, t3, t4, t5, t6, t7⟩ := x6
  have hl := stc_lt hp hi
  obtain ⟨cc1, cc4, cc5, cc6, cc8⟩ := stc_c hp hi
  obtain ⟨rr2, rr4, rr6⟩ := stc_row hp hi
  have hA := arh_k x1.1.2.2.1 x1.1.2.2.2.1
  have er : (ps_i s (stc p D.length) 0).toInt = (24 : Int) := t0
  obtain ⟨Ra, aa, ab, ac, ad, ae⟩ := prem_1 X hD h1
  have Wa : cv_W s (stc p n1 + 6) (tq_r D n1) := by rw [ab]; exact ad.1
  have r5a := (stc_row hp (i := n1) (by omega)).2.2
  have la : p + 44 ≤ stc p n1 ∧ stc p n1 + 9 ≤ stc p D.length := by unfold stc; omega
  have Ga : ws (sg h.1) (tq_r D n1) [true] := by rw [ab]; exact ae.1.1
  obtain ⟨Rb, ba, bb, bc, bd, be⟩ := prem_1 X hD h2
  have Wb : cv_W s (stc p n2 + 6) (tq_r D n2) := by rw [bb]; exact bd.1
  have r5b := (stc_row hp (i := n2) (by omega)).2.2
  have lb : p + 44 ≤ stc p n2 ∧ stc p n2 + 9 ≤ stc p D.length := by unfold stc; omega
  have Gb : ws (sg h.1) (tq_r D n2) [true] := by rw [bb]; exact be.1.1
  obtain ⟨-, -, ⟨-, -, -, c3', c4', c5'⟩, -, i12, i14, i6, -⟩ := prf hp
  have h40 := Wa.2.2.1
  have t5 := t5 (Or.inr rfl)
  clear t0 t1 t2 t3 t4 t6 t7
  obtain ⟨b1, b2, b3, b4, b5⟩ := B
  have o5 := ((prf hp).2.1 1 (by decide)).2
  refine pl_54_0 (fs_92h (c := 5) r5a Wa (fun v1 hh q1 => ⟨fun _ => pl_nk_i (fun _ => ?_), fun z => absurd (show v1 = 5 from Int32.toInt_inj.mp q1) z⟩) (fun v1 hh q1 => ⟨fun z => absurd (show v1.toInt = ((5 : Nat) : Int) from xeq z) q1, fun _ => ?_⟩))
  · rw [cc4, cc6]
    refine fs_91 (pl_nk_i (fun _ => pl_nk_i (fun _ => ?_)))
    have G0 : cfr (C2 (stc p D.length + 2)) s (ps_ui (ps_ui s (stc p D.length + 2) 1 0) (stc p D.length + 2) 2 0) := cfr_i (cfr_i cfr_refl (Or.inl rfl)) (Or.inl rfl)
    refine fs_93w (c := 60 + x) rr2 (CW_of CW_0) (by rw [(G0 (stc p D.length) (by unfold C2; omega)).1]; exact t5) (fun s3 C3 F3 => ?_)
    have G1 := cfr_tr G0 F3
    have Wt : cv_W s3 (stc p D.length + 2) [60 + x] := C3.2.1 (show 1 ≤ 40 from by decide)
    refine fs_38 (i := 1) hp rfl (by decide) (pl_nk_i (fun _ => ?_))
    have Wa3 := cv_W_cfr Wa G1 (by unfold C2; omega) (by unfold C2; omega)
    refine fs_52 (th := th) hp x3 (by rw [(G1 p (by unfold C2; omega)).2.2.1]; exact x2') (cv_E_cfr x1.1 G1 (by unfold C2; omega) (by unfold C2; omega) (by unfold C2; omega) (by unfold C2; omega)) o5 r5a rr2 (by unfold apart otc; omega) (by unfold apart otc; omega) (by unfold otc; omega) Wa3 Ga Wt (fun s5 C5 F5 => pl_nk_i (fun _ => ?_))
    have GG : cfr (fun q => C2 (stc p D.length + 2) q ∨ CPI p (otc p 1) q) s s5 := cfr_tr (cfr_mono G1 (fun q z => Or.inl z)) (cfr_mono F5 (fun q z => Or.inr z))
    have GG' : cfr (CTO p D.length) s s5 := cfr_mono GG (fun q z => by unfold CPI CSh C2 otc at z; unfold CTO; omega)
    have Wa5 := cv_W_cfr Wa GG (by unfold CPI CSh C2 otc; omega) (by unfold CPI CSh C2 otc; omega)
    have Wb5 := cv_W_cfr Wb GG (by unfold CPI CSh C2 otc; omega) (by unfold CPI CSh C2 otc; omega)
    have x55 := cpD_cfr x5 GG (fun q a b => by unfold CPI CSh C2 otc; unfold stc at *; omega)
    have t55 : (ps_i s5 (stc p D.length) 3).toInt = (60 + x : Nat) := by rw [(GG (stc p D.length) (by unfold CPI CSh C2 otc; omega)).1]; exact t5
    have no : ((tq_r D n1).contains (60 + x) = true ∨ (tq_r D n2).contains (60 + x) = true ∨ (tq_a D n2).any (fun y => !decide (y = tq_in (arh h.1) (tq_r D n1) [60 + x]) && y.contains (60 + x)) = true) → R 3 s5 := fun y => by
      have hm : tq_mk h Θ D ((24, n1, n2, n3), (ax, x), tt, f) = (3, [], [], [], []) := by rw [tq_mk_24, if_pos hh, if_pos y]
      exact k _ _ ⟨by rw [hm]; rfl, fun z => absurd z (by rw [hm]; exact of_decide_eq_true rfl), GG'⟩
    have at68 : ((tq_r D n1).contains (60 + x) = true ∨ (tq_r D n2).contains (60 + x) = true) → pl_At n 54 68 [(0, .ref p), (1, .ref (stc p D.length)), (3, .ref (stc p n2))] [] s5 (ps_rI R) := fun y => by
      cases n with
      | zero => exact pl_At_0
      | succ n =>
      refine pl_54_68 ⟨fun _ => no (y.elim Or.inl (fun y => Or.inr (Or.inl y))), fun z => absurd z (by decide)⟩
    refine fs_100 r5a Wa5 t55 (fun y => ⟨fun _ => at68 (Or.inl y), fun z => absurd z (by decide)⟩) (fun y => ⟨fun z => absurd rfl z, fun _ => pl_nk_i (fun _ => pl_nk_i (fun _ => ?_))⟩)
    rw [(stc_c hp (i := n2) (by omega)).2.2.2.1]
    refine fs_100 r5b Wb5 t55 (fun y2 => ⟨fun z => absurd z (by decide), fun _ => at68 (Or.inr y2)⟩) (fun y2 => ⟨fun _ => ⟨fun z => absurd rfl z, fun _ => pl_nk_i (fun _ => ?_)⟩, fun z => absurd rfl z⟩)
    refine fs_38 (i := 1) hp rfl (by decide) ?_
    refine fs_51 hp x55 ba o5 C5 t55 (fun y3 => ⟨fun z => absurd z (by decide), fun _ => no (Or.inr (Or.inr (by rw [bc]; exact y3)))⟩) (fun y3 => ⟨fun _ => pl_nk_i (fun _ => pl_nk_i (fun _ => ?_)), fun z => absurd rfl z⟩)
    have hm : tq_mk h Θ D ((24, n1, n2, n3), (ax, x), tt, f) = (0, tq_r D n2, [], tq_in (arh h.1) (tq_r D n1) [60 + x], []) := by rw [tq_mk_24, if_pos hh, if_neg (by rw [bc]; exact fun w => w.elim y (fun w => w.elim y2 y3))]
    refine fs_95 rr6 r5b (by omega) Wb5 (fun s7 W7 F7 => ?_)
    have FF : cfr (fun q => (C2 (stc p D.length + 2) q ∨ CPI p (otc p 1) q) ∨ C2 (stc p D.length + 6) q) s s7 := cfr_tr (cfr_mono GG (fun q z => Or.inl z)) (cfr_mono F7 (fun q z => Or.inr z))
    have f0 := FF (stc p D.length) (by unfold CPI CSh C2 otc; omega)
    refine k _ _ ⟨by rw [hm]; rfl, fun _ => ?_, cfr_mono FF (fun q z => by unfold CPI CSh C2 otc at z; unfold CTO; omega)⟩
    unfold cpM
    rw [hm]
    exact ⟨CW_of W7, ⟨CW_cfr (b1 0 (by decide)) FF (by unfold CPI CSh C2 otc; omega) (by unfold CPI CSh C2 otc; omega), CW_cfr C5 F7 (by unfold C2 otc; omega) (by unfold C2 otc; omega), CW_cfr (b1 2 (by decide)) FF (by unfold CPI CSh C2 otc; omega) (by unfold CPI CSh C2 otc; omega)⟩, ⟨by rw [f0.1]; exact b4, by rw [f0.1]; exact b5⟩, fun _ => PA_0 (by rw [f0.1]; exact b2) (by rw [f0.1]; exact b3), fun z => absurd z (of_decide_eq_true rfl), cpN_eq hN (by rw [f0.1]) (FF (stc p D.length + 1) (by unfold CPI CSh C2 otc; omega)).2.2.2.1⟩
  · have hm : tq_mk h Θ D ((24, n1, n2, n3), (ax, x), tt, f) = (2, [], [], [], []) := by rw [tq_mk_24, if_neg hh]
    exact k _ _ ⟨by rw [hm]; rfl, fun z => absurd z (by rw [hm]; exact of_decide_eq_true rfl), cfr_refl⟩
end RUL

