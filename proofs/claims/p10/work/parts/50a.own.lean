set_option maxRecDepth 100000
/-! where the class's calls write: own cells (C) of the objects that they are given -/
def zsz (c : Nat) : Nat := [77, 8, 410, 6, 17, 2, 4, 31, 9, 24, 2, 1131].getD c 0
def zof : Nat → List (Nat × Nat)
  | 0 => [(0, 1), (1, 2), (3, 3), (4, 4), (5, 5), (6, 6), (7, 10), (8, 11), (9, 12), (12, 13), (13, 14)]
  | 1 => [(0, 1), (1, 5), (3, 6), (5, 7)]
  | 2 => [(0, 1), (1, 2), (2, 11), (3, 12), (4, 14), (5, 16)]
  | 3 => [(0, 1), (1, 4), (3, 5)]
  | 4 => [(0, 1), (1, 3), (2, 5), (3, 9), (4, 13), (5, 14), (6, 15), (7, 16)]
  | 5 => [(0, 1)]
  | 6 => [(0, 1), (1, 2), (2, 3)]
  | 7 => [(0, 1), (1, 2), (2, 4), (3, 5), (4, 6)]
  | 8 => [(1, 1), (4, 2), (5, 4), (6, 6), (7, 8)]
  | 9 => [(0, 1), (1, 2), (2, 3), (3, 4), (4, 5), (5, 6)]
  | 10 => [(0, 1)]
  | _ => []
/-- arrays of objects: field, how many, the first's place, their step -/
def zel : Nat → List (Nat × Nat × Nat × Nat)
  | 0 => [(5, 8, 45, 4)]
  | 2 => [(0, 40, 44, 9), (2, 3, 404, 2)]
  | 7 => [(0, 12, 7, 2)]
  | 9 => [(4, 8, 8, 2)]
  | _ => []
def zee (a b k : Nat) : Nat → Bool
  | 0 => true
  | n + 1 => Nat.beq (ps_e0 a n) (b + k * n) && zee a b k n
theorem zee_ok {a b k : Nat} : ∀ {n : Nat}, zee a b k n = true → ∀ i, i < n → ps_e0 a i = b + k * i
  | 0, _, i, hi => by omega
  | n + 1, h, i, hi => by
    unfold zee at h
    rw [Bool.and_eq_true] at h
    by_cases e : i = n
    · rw [e]; exact Nat.eq_of_beq_eq_true h.1
    · exact zee_ok h.2 i (by omega)
def zck (r : Nat) : Bool := match pm_wx r with
  | .inr (c, _) => (zof c).all (fun p => Nat.beq (ps_c0 r p.1) (r + p.2)) && (zel c).all (fun p => Nat.beq (ps_ln (ps_c0 r p.1)) p.2.1 && zee (ps_c0 r p.1) (r + p.2.2.1) p.2.2.2 p.2.1)
  | .inl _ => true
def zall (a : Nat) : Nat → Bool
  | 0 => true
  | n + 1 => zck (a + n) && zall a n
theorem zall_ok {a : Nat} : ∀ {n : Nat}, zall a n = true → ∀ r, a ≤ r → r < a + n → zck r = true
  | 0, _, r, h1, h2 => by omega
  | n + 1, h, r, h1, h2 => by
    unfold zall at h
    rw [Bool.and_eq_true] at h
    by_cases e : r = a + n
    · rw [e]; exact h.1
    · exact zall_ok h.2 r h1 (by omega)
set_option maxRecDepth 1000000
theorem zall_0 : zall 0 150 = true := by decide +kernel
theorem zall_150 : zall 150 150 = true := by decide +kernel
theorem zall_300 : zall 300 150 = true := by decide +kernel
theorem zall_450 : zall 450 150 = true := by decide +kernel
theorem zall_600 : zall 600 150 = true := by decide +kernel
theorem zall_750 : zall 750 150 = true := by decide +kernel
theorem zall_900 : zall 900 150 = true := by decide +kernel
theorem zall_1050 : zall 1050 81 = true := by decide +kernel
set_option maxRecDepth 100000
theorem zck_all {r : Nat} (h : r < 1131) : zck r = true := by
  by_cases h150 : r < 150
  · exact zall_ok zall_0 r (by omega) (by omega)
  by_cases h300 : r < 300
  · exact zall_ok zall_150 r (by omega) (by omega)
  by_cases h450 : r < 450
  · exact zall_ok zall_300 r (by omega) (by omega)
  by_cases h600 : r < 600
  · exact zall_ok zall_450 r (by omega) (by omega)
  by_cases h750 : r < 750
  · exact zall_ok zall_600 r (by omega) (by omega)
  by_cases h900 : r < 900
  · exact zall_ok zall_750 r (by omega) (by omega)
  by_cases h1050 : r < 1050
  · exact zall_ok zall_900 r (by omega) (by omega)
  exact zall_ok zall_1050 r (by omega) (by omega)
theorem zck_c {r c : Nat} (hc : c < 12) (h : ps_is r c = true) : ((zof c).all (fun p => Nat.beq (ps_c0 r p.1) (r + p.2)) && (zel c).all (fun p => Nat.beq (ps_ln (ps_c0 r p.1)) p.2.1 && zee (ps_c0 r p.1) (r + p.2.2.1) p.2.2.2 p.2.1)) = true := by
  have k1 := zck_all (xis_lt hc h)
  obtain ⟨h1, h2⟩ := ps_is_lt (by omega) h
  unfold ps_K at h2
  unfold zck at k1
  cases e : pm_wx r with
  | inl a =>
    obtain ⟨t, n, f⟩ := a
    rw [e] at h2
    cases h2
  | inr a =>
    obtain ⟨c', fs⟩ := a
    rw [e] at h2 k1
    cases h2
    exact k1
theorem zof_is {r c q o : Nat} (hc : c < 12) (hm : (q, o) ∈ zof c) (h : ps_is r c = true) : ps_c0 r q = r + o := by
  have k := zck_c hc h
  rw [Bool.and_eq_true, List.all_eq_true] at k
  exact Nat.eq_of_beq_eq_true (k.1 _ hm)
theorem zel_is {r c q n eo k : Nat} (hc : c < 12) (hm : (q, n, eo, k) ∈ zel c) (h : ps_is r c = true) : ps_ln (ps_c0 r q) = n ∧ ∀ i, i < n → ps_e0 (ps_c0 r q) i = r + eo + k * i := by
  have z := zck_c hc h
  rw [Bool.and_eq_true, List.all_eq_true, List.all_eq_true] at z
  have y := z.2 _ hm
  rw [Bool.and_eq_true] at y
  exact ⟨Nat.eq_of_beq_eq_true y.1, zee_ok y.2⟩
def zI (C : Nat → Prop) (r c : Nat) : Prop := ps_is r c = true ∧ ∀ q, r ≤ q → q < r + zsz c → C q
theorem zI_m {C C' : Nat → Prop} {r c : Nat} (h : zI C r c) (k : ∀ q, C q → C' q) : zI C' r c := ⟨h.1, fun q a b => k q (h.2 q a b)⟩
theorem zo {C : Nat → Prop} {r c q o c' : Nat} (hc : c < 12) (hm : (q, o) ∈ zof c) (hk : ps_is (ps_c0 r q) c' = true) (hs : o + zsz c' ≤ zsz c) (h : zI C r c) : zI C (ps_c0 r q) c' := by
  refine ⟨hk, fun p h1 h2 => ?_⟩
  rw [zof_is hc hm h.1] at h1 h2
  exact h.2 p (by omega) (by omega)
theorem za {C : Nat → Prop} {r c q o t : Nat} (hc : c < 12) (hm : (q, o) ∈ zof c) (hk : ps_ar (ps_c0 r q) t = true ∧ ps_c0 r q < 1131) (hs : o < zsz c) (h : zI C r c) : ps_ar (ps_c0 r q) t = true ∧ ps_c0 r q < 1131 ∧ C (ps_c0 r q) := by
  refine ⟨hk.1, hk.2, ?_⟩
  rw [zof_is hc hm h.1]
  exact h.2 _ (by omega) (by omega)
theorem ze {C : Nat → Prop} {r c q n eo k c' : Nat} {i : Int32} (hc : c < 12) (hm : (q, n, eo, k) ∈ zel c) (hk : ps_is (ps_e0 (ps_c0 r q) i.toNatClampNeg) c' = true) (hs : eo + k * (n - 1) + zsz c' ≤ zsz c) (h : zI C r c) (hi : pm_in i (ps_ln (ps_c0 r q)) = true) : zI C (ps_e0 (ps_c0 r q) i.toNatClampNeg) c' := by
  obtain ⟨l1, l2⟩ := zel_is hc hm h.1
  have hi2 := xg_lt hi
  rw [l1] at hi2
  refine ⟨hk, fun p h1 h2 => ?_⟩
  rw [l2 _ hi2] at h1 h2
  have hj : k * i.toNatClampNeg ≤ k * (n - 1) := Nat.mul_le_mul_left k (by omega)
  exact h.2 p (by omega) (by omega)
theorem za_0_0 {C : Nat → Prop} {r : Nat} (h : zI C r 0) : ps_ar (ps_c0 r 0) 0 = true ∧ ps_c0 r 0 < 1131 ∧ C (ps_c0 r 0) := za (o := 1) (by decide) (by decide) (xk_0_0 h.1) (by decide) h
theorem za_0_1 {C : Nat → Prop} {r : Nat} (h : zI C r 0) : ps_ar (ps_c0 r 1) 0 = true ∧ ps_c0 r 1 < 1131 ∧ C (ps_c0 r 1) := za (o := 2) (by decide) (by decide) (xk_0_1 h.1) (by decide) h
theorem za_0_3 {C : Nat → Prop} {r : Nat} (h : zI C r 0) : ps_ar (ps_c0 r 3) 0 = true ∧ ps_c0 r 3 < 1131 ∧ C (ps_c0 r 3) := za (o := 3) (by decide) (by decide) (xk_0_3 h.1) (by decide) h
theorem za_0_4 {C : Nat → Prop} {r : Nat} (h : zI C r 0) : ps_ar (ps_c0 r 4) 0 = true ∧ ps_c0 r 4 < 1131 ∧ C (ps_c0 r 4) := za (o := 4) (by decide) (by decide) (xk_0_4 h.1) (by decide) h
theorem ze_0_5 {C : Nat → Prop} {r : Nat} {i : Int32} (h : zI C r 0) (hi : pm_in i (ps_ln (ps_c0 r 5)) = true) : zI C (ps_e0 (ps_c0 r 5) i.toNatClampNeg) 6 := ze (n := 8) (eo := 45) (k := 4) (by decide) (by decide) (xe_5 (xk_0_5 h.1).1 hi) (by decide) h hi
theorem zo_0_6 {C : Nat → Prop} {r : Nat} (h : zI C r 0) : zI C (ps_c0 r 6) 6 := zo (o := 6) (by decide) (by decide) (xk_0_6 h.1) (by decide) h
theorem za_0_7 {C : Nat → Prop} {r : Nat} (h : zI C r 0) : ps_ar (ps_c0 r 7) 0 = true ∧ ps_c0 r 7 < 1131 ∧ C (ps_c0 r 7) := za (o := 10) (by decide) (by decide) (xk_0_7 h.1) (by decide) h
theorem za_0_8 {C : Nat → Prop} {r : Nat} (h : zI C r 0) : ps_ar (ps_c0 r 8) 0 = true ∧ ps_c0 r 8 < 1131 ∧ C (ps_c0 r 8) := za (o := 11) (by decide) (by decide) (xk_0_8 h.1) (by decide) h
theorem za_0_9 {C : Nat → Prop} {r : Nat} (h : zI C r 0) : ps_ar (ps_c0 r 9) 0 = true ∧ ps_c0 r 9 < 1131 ∧ C (ps_c0 r 9) := za (o := 12) (by decide) (by decide) (xk_0_9 h.1) (by decide) h
theorem za_0_12 {C : Nat → Prop} {r : Nat} (h : zI C r 0) : ps_ar (ps_c0 r 12) 3 = true ∧ ps_c0 r 12 < 1131 ∧ C (ps_c0 r 12) := za (o := 13) (by decide) (by decide) (xk_0_12 h.1) (by decide) h
theorem za_0_13 {C : Nat → Prop} {r : Nat} (h : zI C r 0) : ps_ar (ps_c0 r 13) 3 = true ∧ ps_c0 r 13 < 1131 ∧ C (ps_c0 r 13) := za (o := 14) (by decide) (by decide) (xk_0_13 h.1) (by decide) h
theorem zo_1_0 {C : Nat → Prop} {r : Nat} (h : zI C r 1) : zI C (ps_c0 r 0) 6 := zo (o := 1) (by decide) (by decide) (xk_1_0 h.1) (by decide) h
theorem za_1_1 {C : Nat → Prop} {r : Nat} (h : zI C r 1) : ps_ar (ps_c0 r 1) 0 = true ∧ ps_c0 r 1 < 1131 ∧ C (ps_c0 r 1) := za (o := 5) (by decide) (by decide) (xk_1_1 h.1) (by decide) h
theorem za_1_3 {C : Nat → Prop} {r : Nat} (h : zI C r 1) : ps_ar (ps_c0 r 3) 0 = true ∧ ps_c0 r 3 < 1131 ∧ C (ps_c0 r 3) := za (o := 6) (by decide) (by decide) (xk_1_3 h.1) (by decide) h
theorem za_1_5 {C : Nat → Prop} {r : Nat} (h : zI C r 1) : ps_ar (ps_c0 r 5) 0 = true ∧ ps_c0 r 5 < 1131 ∧ C (ps_c0 r 5) := za (o := 7) (by decide) (by decide) (xk_1_5 h.1) (by decide) h
theorem ze_2_0 {C : Nat → Prop} {r : Nat} {i : Int32} (h : zI C r 2) (hi : pm_in i (ps_ln (ps_c0 r 0)) = true) : zI C (ps_e0 (ps_c0 r 0) i.toNatClampNeg) 8 := ze (n := 40) (eo := 44) (k := 9) (by decide) (by decide) (xe_7 (xk_2_0 h.1).1 hi) (by decide) h hi
theorem zo_2_1 {C : Nat → Prop} {r : Nat} (h : zI C r 2) : zI C (ps_c0 r 1) 8 := zo (o := 2) (by decide) (by decide) (xk_2_1 h.1) (by decide) h
theorem ze_2_2 {C : Nat → Prop} {r : Nat} {i : Int32} (h : zI C r 2) (hi : pm_in i (ps_ln (ps_c0 r 2)) = true) : zI C (ps_e0 (ps_c0 r 2) i.toNatClampNeg) 5 := ze (n := 3) (eo := 404) (k := 2) (by decide) (by decide) (xe_4 (xk_2_2 h.1).1 hi) (by decide) h hi
theorem zo_2_3 {C : Nat → Prop} {r : Nat} (h : zI C r 2) : zI C (ps_c0 r 3) 5 := zo (o := 12) (by decide) (by decide) (xk_2_3 h.1) (by decide) h
theorem zo_2_4 {C : Nat → Prop} {r : Nat} (h : zI C r 2) : zI C (ps_c0 r 4) 5 := zo (o := 14) (by decide) (by decide) (xk_2_4 h.1) (by decide) h
theorem zo_2_5 {C : Nat → Prop} {r : Nat} (h : zI C r 2) : zI C (ps_c0 r 5) 6 := zo (o := 16) (by decide) (by decide) (xk_2_5 h.1) (by decide) h
theorem zo_3_0 {C : Nat → Prop} {r : Nat} (h : zI C r 3) : zI C (ps_c0 r 0) 10 := zo (o := 1) (by decide) (by decide) (xk_3_0 h.1) (by decide) h
theorem za_3_1 {C : Nat → Prop} {r : Nat} (h : zI C r 3) : ps_ar (ps_c0 r 1) 3 = true ∧ ps_c0 r 1 < 1131 ∧ C (ps_c0 r 1) := za (o := 4) (by decide) (by decide) (xk_3_1 h.1) (by decide) h
theorem za_3_3 {C : Nat → Prop} {r : Nat} (h : zI C r 3) : ps_ar (ps_c0 r 3) 3 = true ∧ ps_c0 r 3 < 1131 ∧ C (ps_c0 r 3) := za (o := 5) (by decide) (by decide) (xk_3_3 h.1) (by decide) h
theorem zo_4_0 {C : Nat → Prop} {r : Nat} (h : zI C r 4) : zI C (ps_c0 r 0) 5 := zo (o := 1) (by decide) (by decide) (xk_4_0 h.1) (by decide) h
theorem zo_4_1 {C : Nat → Prop} {r : Nat} (h : zI C r 4) : zI C (ps_c0 r 1) 5 := zo (o := 3) (by decide) (by decide) (xk_4_1 h.1) (by decide) h
theorem zo_4_2 {C : Nat → Prop} {r : Nat} (h : zI C r 4) : zI C (ps_c0 r 2) 6 := zo (o := 5) (by decide) (by decide) (xk_4_2 h.1) (by decide) h
theorem zo_4_3 {C : Nat → Prop} {r : Nat} (h : zI C r 4) : zI C (ps_c0 r 3) 6 := zo (o := 9) (by decide) (by decide) (xk_4_3 h.1) (by decide) h
theorem za_4_4 {C : Nat → Prop} {r : Nat} (h : zI C r 4) : ps_ar (ps_c0 r 4) 0 = true ∧ ps_c0 r 4 < 1131 ∧ C (ps_c0 r 4) := za (o := 13) (by decide) (by decide) (xk_4_4 h.1) (by decide) h
theorem za_4_5 {C : Nat → Prop} {r : Nat} (h : zI C r 4) : ps_ar (ps_c0 r 5) 0 = true ∧ ps_c0 r 5 < 1131 ∧ C (ps_c0 r 5) := za (o := 14) (by decide) (by decide) (xk_4_5 h.1) (by decide) h
theorem za_4_6 {C : Nat → Prop} {r : Nat} (h : zI C r 4) : ps_ar (ps_c0 r 6) 0 = true ∧ ps_c0 r 6 < 1131 ∧ C (ps_c0 r 6) := za (o := 15) (by decide) (by decide) (xk_4_6 h.1) (by decide) h
theorem za_4_7 {C : Nat → Prop} {r : Nat} (h : zI C r 4) : ps_ar (ps_c0 r 7) 0 = true ∧ ps_c0 r 7 < 1131 ∧ C (ps_c0 r 7) := za (o := 16) (by decide) (by decide) (xk_4_7 h.1) (by decide) h
theorem za_5_0 {C : Nat → Prop} {r : Nat} (h : zI C r 5) : ps_ar (ps_c0 r 0) 0 = true ∧ ps_c0 r 0 < 1131 ∧ C (ps_c0 r 0) := za (o := 1) (by decide) (by decide) (xk_5_0 h.1) (by decide) h
theorem za_6_0 {C : Nat → Prop} {r : Nat} (h : zI C r 6) : ps_ar (ps_c0 r 0) 0 = true ∧ ps_c0 r 0 < 1131 ∧ C (ps_c0 r 0) := za (o := 1) (by decide) (by decide) (xk_6_0 h.1) (by decide) h
theorem za_6_1 {C : Nat → Prop} {r : Nat} (h : zI C r 6) : ps_ar (ps_c0 r 1) 0 = true ∧ ps_c0 r 1 < 1131 ∧ C (ps_c0 r 1) := za (o := 2) (by decide) (by decide) (xk_6_1 h.1) (by decide) h
theorem za_6_2 {C : Nat → Prop} {r : Nat} (h : zI C r 6) : ps_ar (ps_c0 r 2) 0 = true ∧ ps_c0 r 2 < 1131 ∧ C (ps_c0 r 2) := za (o := 3) (by decide) (by decide) (xk_6_2 h.1) (by decide) h
theorem ze_7_0 {C : Nat → Prop} {r : Nat} {i : Int32} (h : zI C r 7) (hi : pm_in i (ps_ln (ps_c0 r 0)) = true) : zI C (ps_e0 (ps_c0 r 0) i.toNatClampNeg) 5 := ze (n := 12) (eo := 7) (k := 2) (by decide) (by decide) (xe_4 (xk_7_0 h.1).1 hi) (by decide) h hi
theorem zo_7_1 {C : Nat → Prop} {r : Nat} (h : zI C r 7) : zI C (ps_c0 r 1) 5 := zo (o := 2) (by decide) (by decide) (xk_7_1 h.1) (by decide) h
theorem za_7_2 {C : Nat → Prop} {r : Nat} (h : zI C r 7) : ps_ar (ps_c0 r 2) 0 = true ∧ ps_c0 r 2 < 1131 ∧ C (ps_c0 r 2) := za (o := 4) (by decide) (by decide) (xk_7_2 h.1) (by decide) h
theorem za_7_3 {C : Nat → Prop} {r : Nat} (h : zI C r 7) : ps_ar (ps_c0 r 3) 0 = true ∧ ps_c0 r 3 < 1131 ∧ C (ps_c0 r 3) := za (o := 5) (by decide) (by decide) (xk_7_3 h.1) (by decide) h
theorem za_7_4 {C : Nat → Prop} {r : Nat} (h : zI C r 7) : ps_ar (ps_c0 r 4) 0 = true ∧ ps_c0 r 4 < 1131 ∧ C (ps_c0 r 4) := za (o := 6) (by decide) (by decide) (xk_7_4 h.1) (by decide) h
theorem za_8_1 {C : Nat → Prop} {r : Nat} (h : zI C r 8) : ps_ar (ps_c0 r 1) 0 = true ∧ ps_c0 r 1 < 1131 ∧ C (ps_c0 r 1) := za (o := 1) (by decide) (by decide) (xk_8_1 h.1) (by decide) h
theorem zo_8_4 {C : Nat → Prop} {r : Nat} (h : zI C r 8) : zI C (ps_c0 r 4) 5 := zo (o := 2) (by decide) (by decide) (xk_8_4 h.1) (by decide) h
theorem zo_8_5 {C : Nat → Prop} {r : Nat} (h : zI C r 8) : zI C (ps_c0 r 5) 5 := zo (o := 4) (by decide) (by decide) (xk_8_5 h.1) (by decide) h
theorem zo_8_6 {C : Nat → Prop} {r : Nat} (h : zI C r 8) : zI C (ps_c0 r 6) 5 := zo (o := 6) (by decide) (by decide) (xk_8_6 h.1) (by decide) h
theorem za_8_7 {C : Nat → Prop} {r : Nat} (h : zI C r 8) : ps_ar (ps_c0 r 7) 0 = true ∧ ps_c0 r 7 < 1131 ∧ C (ps_c0 r 7) := za (o := 8) (by decide) (by decide) (xk_8_7 h.1) (by decide) h
theorem za_9_0 {C : Nat → Prop} {r : Nat} (h : zI C r 9) : ps_ar (ps_c0 r 0) 3 = true ∧ ps_c0 r 0 < 1131 ∧ C (ps_c0 r 0) := za (o := 1) (by decide) (by decide) (xk_9_0 h.1) (by decide) h
theorem za_9_1 {C : Nat → Prop} {r : Nat} (h : zI C r 9) : ps_ar (ps_c0 r 1) 3 = true ∧ ps_c0 r 1 < 1131 ∧ C (ps_c0 r 1) := za (o := 2) (by decide) (by decide) (xk_9_1 h.1) (by decide) h
theorem za_9_2 {C : Nat → Prop} {r : Nat} (h : zI C r 9) : ps_ar (ps_c0 r 2) 3 = true ∧ ps_c0 r 2 < 1131 ∧ C (ps_c0 r 2) := za (o := 3) (by decide) (by decide) (xk_9_2 h.1) (by decide) h
theorem za_9_3 {C : Nat → Prop} {r : Nat} (h : zI C r 9) : ps_ar (ps_c0 r 3) 0 = true ∧ ps_c0 r 3 < 1131 ∧ C (ps_c0 r 3) := za (o := 4) (by decide) (by decide) (xk_9_3 h.1) (by decide) h
theorem ze_9_4 {C : Nat → Prop} {r : Nat} {i : Int32} (h : zI C r 9) (hi : pm_in i (ps_ln (ps_c0 r 4)) = true) : zI C (ps_e0 (ps_c0 r 4) i.toNatClampNeg) 5 := ze (n := 8) (eo := 8) (k := 2) (by decide) (by decide) (xe_4 (xk_9_4 h.1).1 hi) (by decide) h hi
theorem zo_9_5 {C : Nat → Prop} {r : Nat} (h : zI C r 9) : zI C (ps_c0 r 5) 5 := zo (o := 6) (by decide) (by decide) (xk_9_5 h.1) (by decide) h
theorem za_10_0 {C : Nat → Prop} {r : Nat} (h : zI C r 10) : ps_ar (ps_c0 r 0) 3 = true ∧ ps_c0 r 0 < 1131 ∧ C (ps_c0 r 0) := za (o := 1) (by decide) (by decide) (xk_10_0 h.1) (by decide) h
def zJ (C : Nat → Prop) (m : ps_S) (t : Int32) (s : ps_S) : Prop := xJ m t s ∧ cfr C m s
theorem zI_r {C : Nat → Prop} {r c : Nat} (hc : c < 11) (h : zI C r c) : C r := h.2 r (Nat.le_refl _) (by
  have : ∀ c, c < 11 → 0 < zsz c := by decide
  have := this c hc
  omega)
theorem zw_i {C : Nat → Prop} {m s : ps_S} {t : Int32} {r c q : Nat} {v : Int32} (hc : c < 11) (h : zI C r c) (J : zJ C m t s) : zJ C m t (ps_ui s r q v) := ⟨xw_i hc h.1 J.1, cfr_i J.2 (zI_r hc h)⟩
theorem zw_j {C : Nat → Prop} {m s : ps_S} {t : Int32} {r c q : Nat} {v : Int64} (hc : c < 11) (h : zI C r c) (J : zJ C m t s) : zJ C m t (ps_uj s r q v) := ⟨xw_j hc h.1 J.1, cfr_j J.2 (zI_r hc h)⟩
theorem zw_r {C : Nat → Prop} {m s : ps_S} {t : Int32} {r c q v : Nat} (hc : c < 11) (h : zI C r c) (J' : xJ m t (ps_ur s r q v)) (J : zJ C m t s) : zJ C m t (ps_ur s r q v) := ⟨J', cfr_r J.2 (zI_r hc h)⟩
theorem zw_a {C : Nat → Prop} {m s : ps_S} {t : Int32} {r q : Nat} {v : Int32} (p : ps_ar r 0 = true ∧ r < 1131 ∧ C r) (J : zJ C m t s) : zJ C m t (ps_ua s r q v) := ⟨xw_a p.2.1 J.1, cfr_a J.2 p.2.2⟩
theorem zw_b {C : Nat → Prop} {m s : ps_S} {t : Int32} {r q : Nat} {v : Int64} (p : ps_ar r 3 = true ∧ r < 1131 ∧ C r) (J : zJ C m t s) : zJ C m t (ps_ub s r q v) := ⟨xw_b p.2.1 J.1, cfr_b J.2 p.2.2⟩
theorem zJ_refl {C : Nat → Prop} {m : ps_S} {t : Int32} (h : xJ m t m) : zJ C m t m := ⟨h, cfr_refl⟩
theorem zJ_m {C C' : Nat → Prop} {m s : ps_S} {t : Int32} (h : zJ C m t s) (k : ∀ q, C q → C' q) : zJ C' m t s := ⟨h.1, cfr_mono h.2 k⟩
