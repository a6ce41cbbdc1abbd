/-! THE CLASS'S SIDE: kinds of what its references reach; what every one of its calls keeps -/
/-- a kind: a class, or 100 and an array's type -/
def xKb (k v : Nat) : Bool := cond (Nat.blt k 100) (ps_is v k) (ps_ar v (k - 100) && Nat.blt v 1131)
def xfs : Nat → List (Nat × Nat)
  | 0 => [(0, 100), (1, 100), (3, 100), (4, 100), (5, 105), (6, 6), (7, 100), (8, 100), (9, 100), (12, 103), (13, 103)]
  | 1 => [(0, 6), (1, 100), (3, 100), (5, 100)]
  | 2 => [(0, 107), (1, 8), (2, 104), (3, 5), (4, 5), (5, 6)]
  | 3 => [(0, 10), (1, 103), (3, 103)]
  | 4 => [(0, 5), (1, 5), (2, 6), (3, 6), (4, 100), (5, 100), (6, 100), (7, 100)]
  | 5 => [(0, 100)]
  | 6 => [(0, 100), (1, 100), (2, 100)]
  | 7 => [(0, 104), (1, 5), (2, 100), (3, 100), (4, 100)]
  | 8 => [(1, 100), (4, 5), (5, 5), (6, 5), (7, 100)]
  | 9 => [(0, 103), (1, 103), (2, 103), (3, 100), (4, 104), (5, 5)]
  | 10 => [(0, 103)]
  | 11 => [(0, 101), (6, 7), (7, 106), (8, 3), (9, 5), (10, 1), (11, 0), (12, 4)]
  | _ => []
def xel (r t : Nat) : Nat → Bool
  | 0 => true
  | i + 1 => ps_is (ps_e0 r i) (t + 1) && xel r t i
def xck (r : Nat) : Bool := match pm_wx r with
  | .inr (c, fs) => (xfs c).all (fun p => match fs[p.1]? with
    | some (.ref x) => xKb p.2 x
    | _ => false)
  | .inl (t, n, _) => Nat.ble t 3 || xel r t n
def xall (a : Nat) : Nat → Bool
  | 0 => true
  | n + 1 => xck (a + n) && xall a n
theorem xall_ok {a : Nat} : ∀ {n : Nat}, xall a n = true → ∀ r, a ≤ r → r < a + n → xck r = true
  | 0, _, r, h1, h2 => by omega
  | n + 1, h, r, h1, h2 => by
    unfold xall at h
    rw [Bool.and_eq_true] at h
    by_cases e : r = a + n
    · rw [e]; exact h.1
    · exact xall_ok h.2 r h1 (by omega)
set_option maxRecDepth 1000000
theorem xall_0 : xall 0 150 = true := by decide +kernel
theorem xall_150 : xall 150 150 = true := by decide +kernel
theorem xall_300 : xall 300 150 = true := by decide +kernel
theorem xall_450 : xall 450 150 = true := by decide +kernel
theorem xall_600 : xall 600 150 = true := by decide +kernel
theorem xall_750 : xall 750 150 = true := by decide +kernel
theorem xall_900 : xall 900 150 = true := by decide +kernel
theorem xall_1050 : xall 1050 81 = true := by decide +kernel
theorem xck_all {r : Nat} (h : r < 1131) : xck r = true := by
  by_cases h150 : r < 150
  · exact xall_ok xall_0 r (by omega) (by omega)
  by_cases h300 : r < 300
  · exact xall_ok xall_150 r (by omega) (by omega)
  by_cases h450 : r < 450
  · exact xall_ok xall_300 r (by omega) (by omega)
  by_cases h600 : r < 600
  · exact xall_ok xall_450 r (by omega) (by omega)
  by_cases h750 : r < 750
  · exact xall_ok xall_600 r (by omega) (by omega)
  by_cases h900 : r < 900
  · exact xall_ok xall_750 r (by omega) (by omega)
  by_cases h1050 : r < 1050
  · exact xall_ok xall_900 r (by omega) (by omega)
  exact xall_ok xall_1050 r (by omega) (by omega)
def xlow (a : Nat) : Nat → Bool
  | 0 => true
  | n + 1 => (match pm_wx (a + n) with
    | .inr (c, _) => Nat.blt 11 c
    | .inl (t, _, _) => Nat.ble t 3) && xlow a n
theorem xlow_ok {a : Nat} : ∀ {n : Nat}, xlow a n = true → ∀ r, a ≤ r → r < a + n → (match pm_wx r with
    | .inr (c, _) => Nat.blt 11 c
    | .inl (t, _, _) => Nat.ble t 3) = true
  | 0, _, r, h1, h2 => by omega
  | n + 1, h, r, h1, h2 => by
    unfold xlow at h
    rw [Bool.and_eq_true] at h
    by_cases e : r = a + n
    · rw [e]; exact h.1
    · exact xlow_ok h.2 r h1 (by omega)
theorem xlow_1131 : xlow 1131 48 = true := by decide +kernel
/-- an object of the class's side is no cell of the reference's -/
theorem xis_lt {r c : Nat} (hc : c < 12) (h : ps_is r c = true) : r < 1131 := by
  obtain ⟨h1, h2⟩ := ps_is_lt (by omega) h
  refine Nat.lt_of_not_le (fun q => ?_)
  have k := xlow_ok xlow_1131 r q (by omega)
  unfold ps_K at h2
  cases e : pm_wx r with
  | inl a =>
    obtain ⟨t, n, f⟩ := a
    rw [e] at h2
    cases h2
  | inr a =>
    obtain ⟨c', fs⟩ := a
    rw [e] at h2 k
    cases h2
    have := Nat.le_of_ble_eq_true k
    omega
theorem xar_lt {r t : Nat} (ht : 3 < t) (h : ps_ar r t = true) : r < 1131 := by
  obtain ⟨h1, h2⟩ := ps_ar_lt h
  refine Nat.lt_of_not_le (fun q => ?_)
  have k := xlow_ok xlow_1131 r q (by omega)
  unfold ps_K at h2
  cases e : pm_wx r with
  | inr a =>
    obtain ⟨t, n⟩ := a
    rw [e] at h2
    cases h2
  | inl a =>
    obtain ⟨c', n, fs⟩ := a
    rw [e] at h2 k
    cases h2
    have := Nat.le_of_ble_eq_true k
    omega
theorem xis_c {r c c' : Nat} (h : ps_is r c = true) (h' : ps_is r c' = true) : c = c' := by
  unfold ps_is at h h'
  split at h
  · next q z e =>
    rw [e] at h'
    rw [Nat.eq_of_beq_eq_true h, Nat.eq_of_beq_eq_true h']
  · cases h
theorem xk_of {r c q k : Nat} (hc : c < 12) (hm : (q, k) ∈ xfs c) (h : ps_is r c = true) : xKb k (ps_c0 r q) = true := by
  have k1 := xck_all (xis_lt hc h)
  obtain ⟨h1, h2⟩ := ps_is_lt (by omega) h
  unfold ps_K at h2
  unfold xck at k1
  unfold ps_c0
  cases e : pm_wx r with
  | inl a =>
    obtain ⟨t, n, f⟩ := a
    rw [e] at h2
    cases h2
  | inr a =>
    obtain ⟨c', fs⟩ := a
    rw [e] at h2 k1
    cases h2
    have k2 := List.all_eq_true.mp k1 _ hm
    dsimp only at k2 ⊢
    split at k2
    · next x ex => rw [ex]; exact k2
    · cases k2
theorem xel_ok {r t : Nat} : ∀ {n : Nat}, xel r t n = true → ∀ i, i < n → ps_is (ps_e0 r i) (t + 1) = true
  | 0, _, i, h1 => by omega
  | n + 1, h, i, h1 => by
    unfold xel at h
    rw [Bool.and_eq_true] at h
    by_cases e : i = n
    · rw [e]; exact h.1
    · exact xel_ok h.2 i (by omega)
theorem xg_lt {i : Int32} {n : Nat} (h : pm_in i n = true) : i.toNatClampNeg < n := by
  unfold pm_in at h
  rw [Bool.and_eq_true] at h
  exact Nat.le_of_ble_eq_true h.2
theorem xe_of {r t : Nat} {i : Int32} (ht : 3 < t) (h : ps_ar r t = true) (hi : pm_in i (ps_ln r) = true) : ps_is (ps_e0 r i.toNatClampNeg) (t + 1) = true := by
  have k1 := xck_all (xar_lt ht h)
  obtain ⟨h1, h2⟩ := ps_ar_lt h
  have hl : ps_ln r = (ps_K r).2.2 := rfl
  have hi2 := xg_lt hi
  unfold xck at k1
  rw [hl] at hi2 h2
  unfold ps_K at h2 hi2
  cases e : pm_wx r with
  | inr a =>
    obtain ⟨t, n⟩ := a
    rw [e] at h2
    cases h2
  | inl a =>
    obtain ⟨c', n, fs⟩ := a
    rw [e] at h2 k1 hi2
    have e2 : c' = t := congrArg (fun z => z.2.1) h2
    subst e2
    dsimp only at k1
    rw [Bool.or_eq_true] at k1
    rcases k1 with k1 | k1
    · have := Nat.le_of_ble_eq_true k1; omega
    · exact xel_ok k1 _ hi2
theorem xKb_a {k v : Nat} (hk : 100 ≤ k) (h : xKb k v = true) : ps_ar v (k - 100) = true ∧ v < 1131 := by
  unfold xKb at h
  rw [pm_blt_f hk, cond_false, Bool.and_eq_true] at h
  exact ⟨h.1, Nat.le_of_ble_eq_true h.2⟩
theorem xKb_a_i {k v : Nat} (hk : 100 ≤ k) (h : ps_ar v (k - 100) = true ∧ v < 1131) : xKb k v = true := by
  unfold xKb
  rw [pm_blt_f hk, cond_false, Bool.and_eq_true]
  exact ⟨h.1, Nat.ble_eq_true_of_le h.2⟩
theorem xq_a {r t : Nat} (h : ps_ar r t = true) (h2 : Nat.blt r 1131 = true) : ps_ar r t = true ∧ r < 1131 := ⟨h, Nat.le_of_ble_eq_true h2⟩
/-- fields that are references and not final -/
def xF : Nat → Nat → Option Nat
  | 0, 14 => some 5
  | 0, 15 => some 6
  | 0, 16 => some 9
  | 2, 6 => some 9
  | 3, 5 => some 9
  | 3, 6 => some 5
  | 10, 1 => some 101
  | 11, 2 => some 9
  | 11, 3 => some 9
  | 11, 4 => some 2
  | 11, 5 => some 2
  | _, _ => none
def xT (g : Nat → Nat → Nat) : Prop := ∀ r c q k, ps_is r c = true → xF c q = some k → xKb k (g r q) = true
theorem xT_u {g : Nat → Nat → Nat} {r c q k v : Nat} (h : ps_is r c = true) (hF : xF c q = some k) (hv : xKb k v = true) (H : xT g) : xT (ps_u g r q v) := by
  intro r' c' q' k' h' hF'
  by_cases e : r' = r ∧ q' = q
  · obtain ⟨rfl, rfl⟩ := e
    rw [ps_u_s]
    have := xis_c h h'
    subst this
    rw [hF] at hF'
    cases hF'
    exact hv
  · unfold ps_u
    rw [if_neg e]
    exact H r' c' q' k' h' hF'
/-- the class's calls keep the other side's cells, their own kinds, and the tape's count t -/
def xJ (m : ps_S) (t : Int32) (s : ps_S) : Prop := xT s.1.2.2 ∧ ps_i s 0 1 = t ∧ ∀ r, 1131 ≤ r → ps_i s r = ps_i m r ∧ ps_j s r = ps_j m r ∧ ps_a s r = ps_a m r ∧ ps_b s r = ps_b m r
theorem xw_i {m s : ps_S} {t : Int32} {r c q : Nat} {v : Int32} (hc : c < 11) (h : ps_is r c = true) (J : xJ m t s) : xJ m t (ps_ui s r q v) := by
  obtain ⟨h1, h2, h3⟩ := J
  have hr := xis_lt (by omega) h
  have h0 : 0 ≠ r := fun e => by
    subst e
    have := xis_c h (show ps_is 0 11 = true from rfl)
    omega
  refine ⟨h1, ?_, fun r' hr' => ?_⟩
  · rw [ps_i_ui, if_neg (fun z => h0 z.1)]; exact h2
  · obtain ⟨a1, a2, a3, a4⟩ := h3 r' hr'
    refine ⟨?_, a2, a3, a4⟩
    rw [← a1]
    funext q'
    rw [ps_i_ui, if_neg (fun z => by omega)]
theorem xw_j {m s : ps_S} {t : Int32} {r c q : Nat} {v : Int64} (hc : c < 11) (h : ps_is r c = true) (J : xJ m t s) : xJ m t (ps_uj s r q v) := by
  obtain ⟨h1, h2, h3⟩ := J
  have hr := xis_lt (by omega) h
  refine ⟨h1, h2, fun r' hr' => ?_⟩
  obtain ⟨a1, a2, a3, a4⟩ := h3 r' hr'
  refine ⟨a1, ?_, a3, a4⟩
  rw [← a2]
  funext q'
  rw [ps_j_uj, if_neg (fun z => by omega)]
theorem xw_a {m s : ps_S} {t : Int32} {r q : Nat} {v : Int32} (hr : r < 1131) (J : xJ m t s) : xJ m t (ps_ua s r q v) := by
  obtain ⟨h1, h2, h3⟩ := J
  refine ⟨h1, h2, fun r' hr' => ?_⟩
  obtain ⟨a1, a2, a3, a4⟩ := h3 r' hr'
  refine ⟨a1, a2, ?_, a4⟩
  rw [← a3]
  funext q'
  rw [ps_a_ua, if_neg (fun z => by omega)]
theorem xw_b {m s : ps_S} {t : Int32} {r q : Nat} {v : Int64} (hr : r < 1131) (J : xJ m t s) : xJ m t (ps_ub s r q v) := by
  obtain ⟨h1, h2, h3⟩ := J
  refine ⟨h1, h2, fun r' hr' => ?_⟩
  obtain ⟨a1, a2, a3, a4⟩ := h3 r' hr'
  refine ⟨a1, a2, a3, ?_⟩
  rw [← a4]
  funext q'
  rw [ps_b_ub, if_neg (fun z => by omega)]
theorem xw_tape {m s : ps_S} {t v : Int32} (J : xJ m t s) : xJ m v (ps_ui s 0 1 v) := by
  obtain ⟨h1, h2, h3⟩ := J
  refine ⟨h1, ?_, fun r' hr' => ?_⟩
  · rw [ps_i_ui, if_pos ⟨rfl, rfl⟩]
  · obtain ⟨a1, a2, a3, a4⟩ := h3 r' hr'
    refine ⟨?_, a2, a3, a4⟩
    rw [← a1]
    funext q'
    rw [ps_i_ui, if_neg (fun z => by omega)]
theorem xw_r {m s : ps_S} {t : Int32} {r c q k v : Nat} (hF : xF c q = some k) (h : ps_is r c = true) (hv : xKb k v = true) (J : xJ m t s) : xJ m t (ps_ur s r q v) := by
  obtain ⟨h1, h2, h3⟩ := J
  exact ⟨xT_u h hF hv h1, h2, h3⟩
theorem xJ_refl {s : ps_S} {t : Int32} (h : xT s.1.2.2) (ht : ps_i s 0 1 = t) : xJ s t s := ⟨h, ht, fun _ _ => ⟨rfl, rfl, rfl, rfl⟩⟩
theorem xk_0_0 {r : Nat} (h : ps_is r 0 = true) : ps_ar (ps_c0 r 0) 0 = true ∧ (ps_c0 r 0) < 1131 := xKb_a (k := 100) (by decide) (xk_of (c := 0) (q := 0) (k := 100) (by decide) (by decide) h)
theorem xk_0_1 {r : Nat} (h : ps_is r 0 = true) : ps_ar (ps_c0 r 1) 0 = true ∧ (ps_c0 r 1) < 1131 := xKb_a (k := 100) (by decide) (xk_of (c := 0) (q := 1) (k := 100) (by decide) (by decide) h)
theorem xk_0_3 {r : Nat} (h : ps_is r 0 = true) : ps_ar (ps_c0 r 3) 0 = true ∧ (ps_c0 r 3) < 1131 := xKb_a (k := 100) (by decide) (xk_of (c := 0) (q := 3) (k := 100) (by decide) (by decide) h)
theorem xk_0_4 {r : Nat} (h : ps_is r 0 = true) : ps_ar (ps_c0 r 4) 0 = true ∧ (ps_c0 r 4) < 1131 := xKb_a (k := 100) (by decide) (xk_of (c := 0) (q := 4) (k := 100) (by decide) (by decide) h)
theorem xk_0_5 {r : Nat} (h : ps_is r 0 = true) : ps_ar (ps_c0 r 5) 5 = true ∧ (ps_c0 r 5) < 1131 := xKb_a (k := 105) (by decide) (xk_of (c := 0) (q := 5) (k := 105) (by decide) (by decide) h)
theorem xk_0_6 {r : Nat} (h : ps_is r 0 = true) : ps_is (ps_c0 r 6) 6 = true := xk_of (c := 0) (q := 6) (k := 6) (by decide) (by decide) h
theorem xk_0_7 {r : Nat} (h : ps_is r 0 = true) : ps_ar (ps_c0 r 7) 0 = true ∧ (ps_c0 r 7) < 1131 := xKb_a (k := 100) (by decide) (xk_of (c := 0) (q := 7) (k := 100) (by decide) (by decide) h)
theorem xk_0_8 {r : Nat} (h : ps_is r 0 = true) : ps_ar (ps_c0 r 8) 0 = true ∧ (ps_c0 r 8) < 1131 := xKb_a (k := 100) (by decide) (xk_of (c := 0) (q := 8) (k := 100) (by decide) (by decide) h)
theorem xk_0_9 {r : Nat} (h : ps_is r 0 = true) : ps_ar (ps_c0 r 9) 0 = true ∧ (ps_c0 r 9) < 1131 := xKb_a (k := 100) (by decide) (xk_of (c := 0) (q := 9) (k := 100) (by decide) (by decide) h)
theorem xk_0_12 {r : Nat} (h : ps_is r 0 = true) : ps_ar (ps_c0 r 12) 3 = true ∧ (ps_c0 r 12) < 1131 := xKb_a (k := 103) (by decide) (xk_of (c := 0) (q := 12) (k := 103) (by decide) (by decide) h)
theorem xk_0_13 {r : Nat} (h : ps_is r 0 = true) : ps_ar (ps_c0 r 13) 3 = true ∧ (ps_c0 r 13) < 1131 := xKb_a (k := 103) (by decide) (xk_of (c := 0) (q := 13) (k := 103) (by decide) (by decide) h)
theorem xj_0_14 {m s : ps_S} {t : Int32} {r : Nat} (J : xJ m t s) (h : ps_is r 0 = true) : ps_is (ps_r s r 14) 5 = true := J.1 _ 0 14 5 h rfl
theorem xw_0_14 {m s : ps_S} {t : Int32} {r v : Nat} (h : ps_is r 0 = true) (hv : ps_is (v) 5 = true) (J : xJ m t s) : xJ m t (ps_ur s r 14 v) := xw_r (c := 0) (k := 5) rfl h hv J
theorem xj_0_15 {m s : ps_S} {t : Int32} {r : Nat} (J : xJ m t s) (h : ps_is r 0 = true) : ps_is (ps_r s r 15) 6 = true := J.1 _ 0 15 6 h rfl
theorem xw_0_15 {m s : ps_S} {t : Int32} {r v : Nat} (h : ps_is r 0 = true) (hv : ps_is (v) 6 = true) (J : xJ m t s) : xJ m t (ps_ur s r 15 v) := xw_r (c := 0) (k := 6) rfl h hv J
theorem xj_0_16 {m s : ps_S} {t : Int32} {r : Nat} (J : xJ m t s) (h : ps_is r 0 = true) : ps_is (ps_r s r 16) 9 = true := J.1 _ 0 16 9 h rfl
theorem xw_0_16 {m s : ps_S} {t : Int32} {r v : Nat} (h : ps_is r 0 = true) (hv : ps_is (v) 9 = true) (J : xJ m t s) : xJ m t (ps_ur s r 16 v) := xw_r (c := 0) (k := 9) rfl h hv J
theorem xk_1_0 {r : Nat} (h : ps_is r 1 = true) : ps_is (ps_c0 r 0) 6 = true := xk_of (c := 1) (q := 0) (k := 6) (by decide) (by decide) h
theorem xk_1_1 {r : Nat} (h : ps_is r 1 = true) : ps_ar (ps_c0 r 1) 0 = true ∧ (ps_c0 r 1) < 1131 := xKb_a (k := 100) (by decide) (xk_of (c := 1) (q := 1) (k := 100) (by decide) (by decide) h)
theorem xk_1_3 {r : Nat} (h : ps_is r 1 = true) : ps_ar (ps_c0 r 3) 0 = true ∧ (ps_c0 r 3) < 1131 := xKb_a (k := 100) (by decide) (xk_of (c := 1) (q := 3) (k := 100) (by decide) (by decide) h)
theorem xk_1_5 {r : Nat} (h : ps_is r 1 = true) : ps_ar (ps_c0 r 5) 0 = true ∧ (ps_c0 r 5) < 1131 := xKb_a (k := 100) (by decide) (xk_of (c := 1) (q := 5) (k := 100) (by decide) (by decide) h)
theorem xk_2_0 {r : Nat} (h : ps_is r 2 = true) : ps_ar (ps_c0 r 0) 7 = true ∧ (ps_c0 r 0) < 1131 := xKb_a (k := 107) (by decide) (xk_of (c := 2) (q := 0) (k := 107) (by decide) (by decide) h)
theorem xk_2_1 {r : Nat} (h : ps_is r 2 = true) : ps_is (ps_c0 r 1) 8 = true := xk_of (c := 2) (q := 1) (k := 8) (by decide) (by decide) h
theorem xk_2_2 {r : Nat} (h : ps_is r 2 = true) : ps_ar (ps_c0 r 2) 4 = true ∧ (ps_c0 r 2) < 1131 := xKb_a (k := 104) (by decide) (xk_of (c := 2) (q := 2) (k := 104) (by decide) (by decide) h)
theorem xk_2_3 {r : Nat} (h : ps_is r 2 = true) : ps_is (ps_c0 r 3) 5 = true := xk_of (c := 2) (q := 3) (k := 5) (by decide) (by decide) h
theorem xk_2_4 {r : Nat} (h : ps_is r 2 = true) : ps_is (ps_c0 r 4) 5 = true := xk_of (c := 2) (q := 4) (k := 5) (by decide) (by decide) h
theorem xk_2_5 {r : Nat} (h : ps_is r 2 = true) : ps_is (ps_c0 r 5) 6 = true := xk_of (c := 2) (q := 5) (k := 6) (by decide) (by decide) h
theorem xj_2_6 {m s : ps_S} {t : Int32} {r : Nat} (J : xJ m t s) (h : ps_is r 2 = true) : ps_is (ps_r s r 6) 9 = true := J.1 _ 2 6 9 h rfl
theorem xw_2_6 {m s : ps_S} {t : Int32} {r v : Nat} (h : ps_is r 2 = true) (hv : ps_is (v) 9 = true) (J : xJ m t s) : xJ m t (ps_ur s r 6 v) := xw_r (c := 2) (k := 9) rfl h hv J
theorem xk_3_0 {r : Nat} (h : ps_is r 3 = true) : ps_is (ps_c0 r 0) 10 = true := xk_of (c := 3) (q := 0) (k := 10) (by decide) (by decide) h
theorem xk_3_1 {r : Nat} (h : ps_is r 3 = true) : ps_ar (ps_c0 r 1) 3 = true ∧ (ps_c0 r 1) < 1131 := xKb_a (k := 103) (by decide) (xk_of (c := 3) (q := 1) (k := 103) (by decide) (by decide) h)
theorem xk_3_3 {r : Nat} (h : ps_is r 3 = true) : ps_ar (ps_c0 r 3) 3 = true ∧ (ps_c0 r 3) < 1131 := xKb_a (k := 103) (by decide) (xk_of (c := 3) (q := 3) (k := 103) (by decide) (by decide) h)
theorem xj_3_5 {m s : ps_S} {t : Int32} {r : Nat} (J : xJ m t s) (h : ps_is r 3 = true) : ps_is (ps_r s r 5) 9 = true := J.1 _ 3 5 9 h rfl
theorem xw_3_5 {m s : ps_S} {t : Int32} {r v : Nat} (h : ps_is r 3 = true) (hv : ps_is (v) 9 = true) (J : xJ m t s) : xJ m t (ps_ur s r 5 v) := xw_r (c := 3) (k := 9) rfl h hv J
theorem xj_3_6 {m s : ps_S} {t : Int32} {r : Nat} (J : xJ m t s) (h : ps_is r 3 = true) : ps_is (ps_r s r 6) 5 = true := J.1 _ 3 6 5 h rfl
theorem xw_3_6 {m s : ps_S} {t : Int32} {r v : Nat} (h : ps_is r 3 = true) (hv : ps_is (v) 5 = true) (J : xJ m t s) : xJ m t (ps_ur s r 6 v) := xw_r (c := 3) (k := 5) rfl h hv J
theorem xk_4_0 {r : Nat} (h : ps_is r 4 = true) : ps_is (ps_c0 r 0) 5 = true := xk_of (c := 4) (q := 0) (k := 5) (by decide) (by decide) h
theorem xk_4_1 {r : Nat} (h : ps_is r 4 = true) : ps_is (ps_c0 r 1) 5 = true := xk_of (c := 4) (q := 1) (k := 5) (by decide) (by decide) h
theorem xk_4_2 {r : Nat} (h : ps_is r 4 = true) : ps_is (ps_c0 r 2) 6 = true := xk_of (c := 4) (q := 2) (k := 6) (by decide) (by decide) h
theorem xk_4_3 {r : Nat} (h : ps_is r 4 = true) : ps_is (ps_c0 r 3) 6 = true := xk_of (c := 4) (q := 3) (k := 6) (by decide) (by decide) h
theorem xk_4_4 {r : Nat} (h : ps_is r 4 = true) : ps_ar (ps_c0 r 4) 0 = true ∧ (ps_c0 r 4) < 1131 := xKb_a (k := 100) (by decide) (xk_of (c := 4) (q := 4) (k := 100) (by decide) (by decide) h)
theorem xk_4_5 {r : Nat} (h : ps_is r 4 = true) : ps_ar (ps_c0 r 5) 0 = true ∧ (ps_c0 r 5) < 1131 := xKb_a (k := 100) (by decide) (xk_of (c := 4) (q := 5) (k := 100) (by decide) (by decide) h)
theorem xk_4_6 {r : Nat} (h : ps_is r 4 = true) : ps_ar (ps_c0 r 6) 0 = true ∧ (ps_c0 r 6) < 1131 := xKb_a (k := 100) (by decide) (xk_of (c := 4) (q := 6) (k := 100) (by decide) (by decide) h)
theorem xk_4_7 {r : Nat} (h : ps_is r 4 = true) : ps_ar (ps_c0 r 7) 0 = true ∧ (ps_c0 r 7) < 1131 := xKb_a (k := 100) (by decide) (xk_of (c := 4) (q := 7) (k := 100) (by decide) (by decide) h)
theorem xk_5_0 {r : Nat} (h : ps_is r 5 = true) : ps_ar (ps_c0 r 0) 0 = true ∧ (ps_c0 r 0) < 1131 := xKb_a (k := 100) (by decide) (xk_of (c := 5) (q := 0) (k := 100) (by decide) (by decide) h)
theorem xk_6_0 {r : Nat} (h : ps_is r 6 = true) : ps_ar (ps_c0 r 0) 0 = true ∧ (ps_c0 r 0) < 1131 := xKb_a (k := 100) (by decide) (xk_of (c := 6) (q := 0) (k := 100) (by decide) (by decide) h)
theorem xk_6_1 {r : Nat} (h : ps_is r 6 = true) : ps_ar (ps_c0 r 1) 0 = true ∧ (ps_c0 r 1) < 1131 := xKb_a (k := 100) (by decide) (xk_of (c := 6) (q := 1) (k := 100) (by decide) (by decide) h)
theorem xk_6_2 {r : Nat} (h : ps_is r 6 = true) : ps_ar (ps_c0 r 2) 0 = true ∧ (ps_c0 r 2) < 1131 := xKb_a (k := 100) (by decide) (xk_of (c := 6) (q := 2) (k := 100) (by decide) (by decide) h)
theorem xk_7_0 {r : Nat} (h : ps_is r 7 = true) : ps_ar (ps_c0 r 0) 4 = true ∧ (ps_c0 r 0) < 1131 := xKb_a (k := 104) (by decide) (xk_of (c := 7) (q := 0) (k := 104) (by decide) (by decide) h)
theorem xk_7_1 {r : Nat} (h : ps_is r 7 = true) : ps_is (ps_c0 r 1) 5 = true := xk_of (c := 7) (q := 1) (k := 5) (by decide) (by decide) h
theorem xk_7_2 {r : Nat} (h : ps_is r 7 = true) : ps_ar (ps_c0 r 2) 0 = true ∧ (ps_c0 r 2) < 1131 := xKb_a (k := 100) (by decide) (xk_of (c := 7) (q := 2) (k := 100) (by decide) (by decide) h)
theorem xk_7_3 {r : Nat} (h : ps_is r 7 = true) : ps_ar (ps_c0 r 3) 0 = true ∧ (ps_c0 r 3) < 1131 := xKb_a (k := 100) (by decide) (xk_of (c := 7) (q := 3) (k := 100) (by decide) (by decide) h)
theorem xk_7_4 {r : Nat} (h : ps_is r 7 = true) : ps_ar (ps_c0 r 4) 0 = true ∧ (ps_c0 r 4) < 1131 := xKb_a (k := 100) (by decide) (xk_of (c := 7) (q := 4) (k := 100) (by decide) (by decide) h)
theorem xk_8_1 {r : Nat} (h : ps_is r 8 = true) : ps_ar (ps_c0 r 1) 0 = true ∧ (ps_c0 r 1) < 1131 := xKb_a (k := 100) (by decide) (xk_of (c := 8) (q := 1) (k := 100) (by decide) (by decide) h)
theorem xk_8_4 {r : Nat} (h : ps_is r 8 = true) : ps_is (ps_c0 r 4) 5 = true := xk_of (c := 8) (q := 4) (k := 5) (by decide) (by decide) h
theorem xk_8_5 {r : Nat} (h : ps_is r 8 = true) : ps_is (ps_c0 r 5) 5 = true := xk_of (c := 8) (q := 5) (k := 5) (by decide) (by decide) h
theorem xk_8_6 {r : Nat} (h : ps_is r 8 = true) : ps_is (ps_c0 r 6) 5 = true := xk_of (c := 8) (q := 6) (k := 5) (by decide) (by decide) h
theorem xk_8_7 {r : Nat} (h : ps_is r 8 = true) : ps_ar (ps_c0 r 7) 0 = true ∧ (ps_c0 r 7) < 1131 := xKb_a (k := 100) (by decide) (xk_of (c := 8) (q := 7) (k := 100) (by decide) (by decide) h)
theorem xk_9_0 {r : Nat} (h : ps_is r 9 = true) : ps_ar (ps_c0 r 0) 3 = true ∧ (ps_c0 r 0) < 1131 := xKb_a (k := 103) (by decide) (xk_of (c := 9) (q := 0) (k := 103) (by decide) (by decide) h)
theorem xk_9_1 {r : Nat} (h : ps_is r 9 = true) : ps_ar (ps_c0 r 1) 3 = true ∧ (ps_c0 r 1) < 1131 := xKb_a (k := 103) (by decide) (xk_of (c := 9) (q := 1) (k := 103) (by decide) (by decide) h)
theorem xk_9_2 {r : Nat} (h : ps_is r 9 = true) : ps_ar (ps_c0 r 2) 3 = true ∧ (ps_c0 r 2) < 1131 := xKb_a (k := 103) (by decide) (xk_of (c := 9) (q := 2) (k := 103) (by decide) (by decide) h)
theorem xk_9_3 {r : Nat} (h : ps_is r 9 = true) : ps_ar (ps_c0 r 3) 0 = true ∧ (ps_c0 r 3) < 1131 := xKb_a (k := 100) (by decide) (xk_of (c := 9) (q := 3) (k := 100) (by decide) (by decide) h)
theorem xk_9_4 {r : Nat} (h : ps_is r 9 = true) : ps_ar (ps_c0 r 4) 4 = true ∧ (ps_c0 r 4) < 1131 := xKb_a (k := 104) (by decide) (xk_of (c := 9) (q := 4) (k := 104) (by decide) (by decide) h)
theorem xk_9_5 {r : Nat} (h : ps_is r 9 = true) : ps_is (ps_c0 r 5) 5 = true := xk_of (c := 9) (q := 5) (k := 5) (by decide) (by decide) h
theorem xk_10_0 {r : Nat} (h : ps_is r 10 = true) : ps_ar (ps_c0 r 0) 3 = true ∧ (ps_c0 r 0) < 1131 := xKb_a (k := 103) (by decide) (xk_of (c := 10) (q := 0) (k := 103) (by decide) (by decide) h)
theorem xj_10_1 {m s : ps_S} {t : Int32} {r : Nat} (J : xJ m t s) (h : ps_is r 10 = true) : ps_ar (ps_r s r 1) 1 = true ∧ (ps_r s r 1) < 1131 := xKb_a (k := 101) (by decide) (J.1 _ 10 1 101 h rfl)
theorem xw_10_1 {m s : ps_S} {t : Int32} {r v : Nat} (h : ps_is r 10 = true) (hv : ps_ar (v) 1 = true ∧ (v) < 1131) (J : xJ m t s) : xJ m t (ps_ur s r 1 v) := xw_r (c := 10) (k := 101) rfl h (xKb_a_i (by decide) hv) J
theorem xk_11_0 {r : Nat} (h : ps_is r 11 = true) : ps_ar (ps_c0 r 0) 1 = true ∧ (ps_c0 r 0) < 1131 := xKb_a (k := 101) (by decide) (xk_of (c := 11) (q := 0) (k := 101) (by decide) (by decide) h)
theorem xj_11_2 {m s : ps_S} {t : Int32} {r : Nat} (J : xJ m t s) (h : ps_is r 11 = true) : ps_is (ps_r s r 2) 9 = true := J.1 _ 11 2 9 h rfl
theorem xw_11_2 {m s : ps_S} {t : Int32} {r v : Nat} (h : ps_is r 11 = true) (hv : ps_is (v) 9 = true) (J : xJ m t s) : xJ m t (ps_ur s r 2 v) := xw_r (c := 11) (k := 9) rfl h hv J
theorem xj_11_3 {m s : ps_S} {t : Int32} {r : Nat} (J : xJ m t s) (h : ps_is r 11 = true) : ps_is (ps_r s r 3) 9 = true := J.1 _ 11 3 9 h rfl
theorem xw_11_3 {m s : ps_S} {t : Int32} {r v : Nat} (h : ps_is r 11 = true) (hv : ps_is (v) 9 = true) (J : xJ m t s) : xJ m t (ps_ur s r 3 v) := xw_r (c := 11) (k := 9) rfl h hv J
theorem xj_11_4 {m s : ps_S} {t : Int32} {r : Nat} (J : xJ m t s) (h : ps_is r 11 = true) : ps_is (ps_r s r 4) 2 = true := J.1 _ 11 4 2 h rfl
theorem xw_11_4 {m s : ps_S} {t : Int32} {r v : Nat} (h : ps_is r 11 = true) (hv : ps_is (v) 2 = true) (J : xJ m t s) : xJ m t (ps_ur s r 4 v) := xw_r (c := 11) (k := 2) rfl h hv J
theorem xj_11_5 {m s : ps_S} {t : Int32} {r : Nat} (J : xJ m t s) (h : ps_is r 11 = true) : ps_is (ps_r s r 5) 2 = true := J.1 _ 11 5 2 h rfl
theorem xw_11_5 {m s : ps_S} {t : Int32} {r v : Nat} (h : ps_is r 11 = true) (hv : ps_is (v) 2 = true) (J : xJ m t s) : xJ m t (ps_ur s r 5 v) := xw_r (c := 11) (k := 2) rfl h hv J
theorem xk_11_6 {r : Nat} (h : ps_is r 11 = true) : ps_is (ps_c0 r 6) 7 = true := xk_of (c := 11) (q := 6) (k := 7) (by decide) (by decide) h
theorem xk_11_7 {r : Nat} (h : ps_is r 11 = true) : ps_ar (ps_c0 r 7) 6 = true ∧ (ps_c0 r 7) < 1131 := xKb_a (k := 106) (by decide) (xk_of (c := 11) (q := 7) (k := 106) (by decide) (by decide) h)
theorem xk_11_8 {r : Nat} (h : ps_is r 11 = true) : ps_is (ps_c0 r 8) 3 = true := xk_of (c := 11) (q := 8) (k := 3) (by decide) (by decide) h
theorem xk_11_9 {r : Nat} (h : ps_is r 11 = true) : ps_is (ps_c0 r 9) 5 = true := xk_of (c := 11) (q := 9) (k := 5) (by decide) (by decide) h
theorem xk_11_10 {r : Nat} (h : ps_is r 11 = true) : ps_is (ps_c0 r 10) 1 = true := xk_of (c := 11) (q := 10) (k := 1) (by decide) (by decide) h
theorem xk_11_11 {r : Nat} (h : ps_is r 11 = true) : ps_is (ps_c0 r 11) 0 = true := xk_of (c := 11) (q := 11) (k := 0) (by decide) (by decide) h
theorem xk_11_12 {r : Nat} (h : ps_is r 11 = true) : ps_is (ps_c0 r 12) 4 = true := xk_of (c := 11) (q := 12) (k := 4) (by decide) (by decide) h
theorem xe_4 {r n : Nat} {i : Int32} (h : ps_ar r 4 = true) (hi : pm_in i n = true) (hn : n = ps_ln r := by rfl) : ps_is (ps_e0 r i.toNatClampNeg) 5 = true := xe_of (by decide) h (hn ▸ hi)
theorem xe_5 {r n : Nat} {i : Int32} (h : ps_ar r 5 = true) (hi : pm_in i n = true) (hn : n = ps_ln r := by rfl) : ps_is (ps_e0 r i.toNatClampNeg) 6 = true := xe_of (by decide) h (hn ▸ hi)
theorem xe_6 {r n : Nat} {i : Int32} (h : ps_ar r 6 = true) (hi : pm_in i n = true) (hn : n = ps_ln r := by rfl) : ps_is (ps_e0 r i.toNatClampNeg) 7 = true := xe_of (by decide) h (hn ▸ hi)
theorem xe_7 {r n : Nat} {i : Int32} (h : ps_ar r 7 = true) (hi : pm_in i n = true) (hn : n = ps_ln r := by rfl) : ps_is (ps_e0 r i.toNatClampNeg) 8 = true := xe_of (by decide) h (hn ▸ hi)
theorem xn_0 {r : Nat} (h : ps_ar r 0 = true) : ps_ar r 0 = true := h
theorem xn_1 {r : Nat} (h : ps_ar r 1 = true) : (ps_ar r 1 || ps_ar r 2) = true := by rw [h]; rfl
theorem xn_2 {r : Nat} (h : ps_ar r 2 = true) : (ps_ar r 1 || ps_ar r 2) = true := by rw [h]; exact Bool.or_true _
theorem xn_3 {r : Nat} (h : ps_ar r 3 = true) : ps_ar r 3 = true := h
theorem xn_4 {r : Nat} (h : ps_ar r 4 = true) : (ps_ar r 4 || ps_ar r 5 || ps_ar r 6 || ps_ar r 7) = true := by rw [h]; simp
theorem xn_5 {r : Nat} (h : ps_ar r 5 = true) : (ps_ar r 4 || ps_ar r 5 || ps_ar r 6 || ps_ar r 7) = true := by rw [h]; simp
theorem xn_6 {r : Nat} (h : ps_ar r 6 = true) : (ps_ar r 4 || ps_ar r 5 || ps_ar r 6 || ps_ar r 7) = true := by rw [h]; simp
theorem xn_7 {r : Nat} (h : ps_ar r 7 = true) : (ps_ar r 4 || ps_ar r 5 || ps_ar r 6 || ps_ar r 7) = true := by rw [h]; simp
theorem xn_l {r t : Nat} (h : ps_ar r t = true) : Nat.beq (ps_K r).1 0 = true := by rw [(ps_ar_lt h).2]; rfl
theorem xI_add {a b : Int32} (h1 : -2147483648 ≤ a.toInt + b.toInt) (h2 : a.toInt + b.toInt < 2147483648) : (a + b).toInt = a.toInt + b.toInt := by
  rw [Int32.toInt_add]
  exact Int.bmod_eq_of_le (by omega) (by omega)
theorem xg_in {i : Int32} {n : Nat} (h1 : 0 ≤ i) (h2 : i < nI n) : pm_in i n = true := by
  unfold pm_in
  rw [Bool.and_eq_true]
  refine ⟨decide_eq_true h1, Nat.ble_eq_true_of_le ?_⟩
  have h1' : ¬ i < 0 := by rw [Int32.lt_iff_toInt_lt]; rw [Int32.le_iff_toInt_le] at h1; omega
  obtain ⟨j, hj, rfl⟩ := nI_of h1'
  rw [nI_clamp hj]
  refine Nat.lt_of_not_le (fun q => ?_)
  rw [Int32.lt_iff_toInt_lt, nI_toInt hj, nI_toInt (by omega)] at h2
  omega
theorem xg_nz {i : Int32} (h : 0 < i) : (!decide (i = 0)) = true := by
  have : i ≠ 0 := fun z => by
    rw [z] at h
    rw [Int32.lt_iff_toInt_lt] at h
    omega
  simp [this]
theorem xone : (1 : Int32).toInt = 1 := by decide
theorem xmone : (-1 : Int32).toInt = -1 := by decide
theorem xs_lt {x b : Int32} (h : x < b) : x < x + 1 := by
  rw [Int32.lt_iff_toInt_lt] at *
  have := Int32.toInt_lt b
  have := Int32.le_toInt x
  rw [xI_add (by rw [xone]; omega) (by rw [xone]; omega), xone]
  omega
theorem xs_le {x b : Int32} (h : x ≤ b) (hb : b.toInt < 2147483647) : x < x + 1 := by
  rw [Int32.le_iff_toInt_le] at h
  rw [Int32.lt_iff_toInt_lt]
  have := Int32.le_toInt x
  rw [xI_add (by rw [xone]; omega) (by rw [xone]; omega), xone]
  omega
theorem xs_ge {x : Int32} (h : 0 ≤ x) : x + (-1) < x := by
  rw [Int32.le_iff_toInt_le, Int32.toInt_zero] at h
  rw [Int32.lt_iff_toInt_lt]
  have := Int32.toInt_lt x
  rw [xI_add (by rw [xmone]; omega) (by rw [xmone]; omega), xmone]
  omega
theorem xs_gt {x : Int32} (h : 0 < x) : x + (-1) < x := xs_ge (Int32.le_of_lt h)
theorem xs_nn {x b : Int32} (h0 : 0 ≤ x) (h : x < b) : 0 ≤ x + 1 := by
  have h1 := xs_lt h
  rw [Int32.lt_iff_toInt_lt] at h1
  rw [Int32.le_iff_toInt_le] at *
  omega
theorem xs_max {x b v : Int32} (h : x < b) : x < if (x + 1) < v then v else (x + 1) := by
  have h1 := xs_lt h
  split
  · next q =>
    rw [Int32.lt_iff_toInt_lt] at *
    omega
  · exact h1
theorem xs_up {P : Int32 → Prop} (h : ∀ i, (∀ j, i < j → P j) → P i) (i : Int32) : P i := by
  have key : ∀ (n : Nat) (i : Int32), 2147483648 - i.toInt ≤ n → P i := by
    intro n
    induction n with
    | zero => intro i hi; have := Int32.toInt_lt i; omega
    | succ n ih => intro i hi; exact h i (fun j hj => ih j (by rw [Int32.lt_iff_toInt_lt] at hj; omega))
  exact key (2147483648 - i.toInt).toNat i (by omega)
theorem xs_dn {P : Int32 → Prop} (h : ∀ i, (∀ j, j < i → P j) → P i) (i : Int32) : P i := by
  have key : ∀ (n : Nat) (i : Int32), i.toInt + 2147483648 ≤ n → P i := by
    intro n
    induction n with
    | zero => intro i hi; exact h i (fun j hj => by rw [Int32.lt_iff_toInt_lt] at hj; have := Int32.le_toInt j; omega)
    | succ n ih => intro i hi; exact h i (fun j hj => ih j (by rw [Int32.lt_iff_toInt_lt] at hj; omega))
  exact key (i.toInt + 2147483648).toNat i (by have := Int32.le_toInt i; omega)
/-- a formula's depth, a term's: what the next level gives -/
def xsF (d : Nat) (x : Int32) : Prop := ∀ (m s : ps_S) (t : Int32) (r0 : Nat) (f : Int32 → ps_S → Prop), ps_is r0 3 = true → xJ m t s → (∀ (v : Int32) (s' : ps_S), v &&& 1 = v → xJ m t s' → f v s') → ps_Cl (d + 8) 70 [.ref r0, .int x] s (ps_rI f)
def xsT (d : Nat) (x : Int32) : Prop := ∀ (m s : ps_S) (t : Int32) (r0 : Nat) (f : Int32 → ps_S → Prop), ps_is r0 3 = true → xJ m t s → (∀ (v : Int32) (s' : ps_S), v &&& 1 = v → xJ m t s' → f v s') → ps_Cl (d + 8) 76 [.ref r0, .int x] s (ps_rI f)
def xsS (d : Nat) (x : Int32) : Prop := ∀ (m s : ps_S) (t : Int32) (r0 : Nat) (x1 x2 : Int32) (f : Int32 → ps_S → Prop), ps_is r0 0 = true → xJ m t s → (∀ (v : Int32) (s' : ps_S), v &&& 1 = v → xJ m t s' → f v s') → ps_Cl (d + 8) 15 [.ref r0, .int x1, .int x2, .int x] s (ps_rI f)
def xsG (d : Nat) (x : Int32) : Prop := ∀ (m s : ps_S) (t : Int32) (r0 : Nat) (x1 x2 : Int32) (f : Int32 → ps_S → Prop), ps_is r0 0 = true → xJ m t s → (∀ (v : Int32), f v s) → ps_Cl (d + 8) 18 [.ref r0, .int x1, .int x2, .int x] s (ps_rI f)
