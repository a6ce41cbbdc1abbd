set_option maxRecDepth 100000
/-! the class's theory(), whole -/
def kk2 (q : Nat) : Prop := 50 ≤ q ∧ q < 870
def kk7 (q : Nat) : Prop := (870 ≤ q ∧ q < 902) ∨ (1038 ≤ q ∧ q < 1131)
/-- what is cleared behind a theory taken -/
def kkC (q : Nat) : Prop := kk2 q ∨ kk7 q ∨ q = 934 ∨ (1021 ≤ q ∧ q < 1038) ∨ (944 ≤ q ∧ q < 1021)
def kkt (a : Nat) : Nat → Bool
  | 0 => true
  | n + 1 => (!ps_is (a + n) 2 || (Nat.ble 50 (a + n) && Nat.blt (a + n) 870)) && (!ps_is (a + n) 7 || (Nat.ble 870 (a + n) && (Nat.blt (a + n) 902 || Nat.ble 1038 (a + n)))) && kkt a n
theorem kkt_ok {a : Nat} : ∀ {n : Nat}, kkt a n = true → ∀ r, a ≤ r → r < a + n → (ps_is r 2 = true → 50 ≤ r ∧ r < 870) ∧ (ps_is r 7 = true → (870 ≤ r ∧ r < 902) ∨ 1038 ≤ r)
  | 0, _, r, h1, h2 => by omega
  | n + 1, h, r, h1, h2 => by
    unfold kkt at h
    rw [Bool.and_eq_true, Bool.and_eq_true] at h
    by_cases e : r = a + n
    · obtain ⟨⟨g1, g2⟩, -⟩ := h
      rw [← e] at g1 g2
      refine ⟨fun z => ?_, fun z => ?_⟩
      · rw [z, Bool.or_eq_true, Bool.and_eq_true] at g1
        rcases g1 with g1 | g1
        · cases g1
        · exact ⟨Nat.le_of_ble_eq_true g1.1, Nat.le_of_ble_eq_true g1.2⟩
      · rw [z, Bool.or_eq_true, Bool.and_eq_true, Bool.or_eq_true] at g2
        rcases g2 with g2 | ⟨g2, g3 | g3⟩
        · cases g2
        · exact Or.inl ⟨Nat.le_of_ble_eq_true g2, Nat.le_of_ble_eq_true g3⟩
        · exact Or.inr (Nat.le_of_ble_eq_true g3)
    · exact kkt_ok h.2 r h1 (by omega)
set_option maxRecDepth 1000000
theorem kkt_0 : kkt 0 150 = true := by decide +kernel
theorem kkt_150 : kkt 150 150 = true := by decide +kernel
theorem kkt_300 : kkt 300 150 = true := by decide +kernel
theorem kkt_450 : kkt 450 150 = true := by decide +kernel
theorem kkt_600 : kkt 600 150 = true := by decide +kernel
theorem kkt_750 : kkt 750 150 = true := by decide +kernel
theorem kkt_900 : kkt 900 150 = true := by decide +kernel
theorem kkt_1050 : kkt 1050 81 = true := by decide +kernel
set_option maxRecDepth 100000
theorem kkt_is {r : Nat} (hr : r < 1131) : (ps_is r 2 = true → 50 ≤ r ∧ r < 870) ∧ (ps_is r 7 = true → (870 ≤ r ∧ r < 902) ∨ 1038 ≤ r) := by
  by_cases h150 : r < 150
  · exact kkt_ok kkt_0 r (by omega) (by omega)
  by_cases h300 : r < 300
  · exact kkt_ok kkt_150 r (by omega) (by omega)
  by_cases h450 : r < 450
  · exact kkt_ok kkt_300 r (by omega) (by omega)
  by_cases h600 : r < 600
  · exact kkt_ok kkt_450 r (by omega) (by omega)
  by_cases h750 : r < 750
  · exact kkt_ok kkt_600 r (by omega) (by omega)
  by_cases h900 : r < 900
  · exact kkt_ok kkt_750 r (by omega) (by omega)
  by_cases h1050 : r < 1050
  · exact kkt_ok kkt_900 r (by omega) (by omega)
  exact kkt_ok kkt_1050 r (by omega) (by omega)
theorem fs_31d {n r : Nat} {s : ps_S} {R : ps_S → Prop} (k : ∀ s', cfr kkC s s' → R s') : pl_Cl n 31 [.ref r] s (ps_rV R) := by
  cases n with
  | zero => exact pl_At_0
  | succ n =>
  show pl_At (n + 1) 31 0 [(0, .ref r)] [] s (ps_rV R)
  refine pl_31_0 ?_
  refine pl_nk_i (fun nk2 => ?_)
  refine pl_nk_i (fun nk7 => ?_)
  refine pl_nk_i (fun nk12 => ?_)
  have hr : kkC r := Or.inl ((kkt_is (xis_lt (by decide) nk2)).1 nk2)
  exact k _ (cfr_i (cfr_i (cfr_i cfr_refl hr) hr) hr)
theorem fs_108d {n r : Nat} {s : ps_S} {R : ps_S → Prop} (k : ∀ s', cfr kkC s s' → R s') : pl_Cl n 108 [.ref r] s (ps_rV R) := by
  cases n with
  | zero => exact pl_At_0
  | succ n =>
  show pl_At (n + 1) 108 0 [(0, .ref r)] [] s (ps_rV R)
  refine pl_108_0 ?_
  refine pl_nk_i (fun nk2 => ?_)
  refine pl_nk_i (fun nk7 => ?_)
  have hl := xis_lt (by decide) nk2
  have h7 := (kkt_is hl).2 nk2
  have hr : kkC r := Or.inr (Or.inl (by unfold kk7; omega))
  exact k _ (cfr_i (cfr_i cfr_refl hr) hr)
theorem fs_81d {n : Nat} {s : ps_S} {R : ps_S → Prop} (k : ∀ s', cfr (fun q => 1021 ≤ q ∧ q < 1038) s s' → R s') : pl_Cl n 81 [.ref 1021] s (ps_rV R) := by
  cases n with
  | zero => exact pl_At_0
  | succ n =>
  show pl_At (n + 1) 81 0 [(0, .ref 1021)] [] s (ps_rV R)
  refine pl_81_0 ?_
  refine fs_91 ?_
  exact k _ (cfr_i (cfr_i cfr_refl ⟨by decide, by decide⟩) ⟨by decide, by decide⟩)
theorem fs_1d_2 {s0 : ps_S} {R : ps_S → Prop} (k : ∀ s', cfr (fun q => q = 957) s0 s' → R s') : ∀ (n : Nat) {s : ps_S} {x1 : Int32}, cfr (fun q => q = 957) s0 s → pl_At n 1 2 [(0, .ref 944), (1, .int x1)] [] s (ps_rV R)
  | 0, _, _, _ => pl_At_0
  | n + 1, s, x1, K => by
    refine pl_1_2 ?_
    refine ⟨fun h8 => ?_, fun h8 => ?_⟩
    · have h8 : (192 : Int) ≤ x1.toInt := xle h8
      exact k _ K
    · have h8 : x1.toInt < (192 : Int) := xlt h8
      intro b17
      obtain ⟨b17, c17⟩ := pl_in b17
      exact fs_1d_2 k n (cfr_b K rfl)
theorem fs_1d {n : Nat} {s : ps_S} {R : ps_S → Prop} (k : ∀ s', cfr (fun q => q = 957) s s' → R s') : pl_Cl n 1 [.ref 944] s (ps_rV R) := by
  cases n with
  | zero => exact pl_At_0
  | succ n =>
  show pl_At (n + 1) 1 0 [(0, .ref 944)] [] s (ps_rV R)
  refine pl_1_0 ?_
  exact fs_1d_2 k n cfr_refl
theorem kkC_n {q : Nat} (h : q < 50 ∨ q = 902) : ¬ kkC q := by
  unfold kkC kk2 kk7
  omega
theorem fs_151d_65 {s0 : ps_S} {R : Int32 → ps_S → Prop} (k : ∀ s', cfr kkC s0 s' → cv_W s' 934 [] → R (ps_i s0 (ps_r s0 0 2) 8) s') (h9 : ps_r s0 0 2 < 50) : ∀ (n : Nat) {s : ps_S} {x3 : Int32}, cfr kkC s0 s → pl_At n 151 65 [(0, .ref 0), (3, .int x3)] [] s (ps_rI R)
  | 0, _, _, _ => pl_At_0
  | n + 1, s, x3, K => by
    refine pl_151_65 ?_
    refine ⟨fun h71 => ?_, fun h71 => ?_⟩
    · have h71 : (3 : Int) ≤ x3.toInt := xle h71
      refine fs_91 ?_
      refine fs_81d (fun s99 q99 => ?_)
      refine fs_1d (fun s106 q106 => ?_)
      refine pl_nk_i (fun nk113 => ?_)
      have K2 : cfr kkC s0 s106 := cfr_tr (cfr_i (cfr_i K (Or.inr (Or.inr (Or.inl rfl)))) (Or.inr (Or.inr (Or.inl rfl)))) (cfr_tr (cfr_mono q99 (fun q z => Or.inr (Or.inr (Or.inr (Or.inl z))))) (cfr_mono q106 (fun q z => Or.inr (Or.inr (Or.inr (Or.inr (by omega)))))))
      have e2 : ps_r s106 0 2 = ps_r s0 0 2 := (K2 0 (kkC_n (Or.inl (by decide)))).2.2.1 2
      rw [e2, (K2 _ (kkC_n (Or.inl h9))).1 8]
      have W : cv_W (ps_ui (ps_ui s 934 1 0) 934 2 0) 934 [] := ⟨rfl, rfl, Nat.zero_le _, fun k c z => by cases z⟩
      exact k _ K2 (cv_W_cfr (cv_W_cfr W q99 (by omega) (by omega)) q106 (by omega) (by omega))
    · have h71 : x3.toInt < (3 : Int) := xlt h71
      refine fs_180 (fun v76 => ?_)
      refine fs_108d (fun s79 q79 => ?_)
      exact fs_151d_65 k h9 n (cfr_tr K q79)
/-- theory(), of the class: th is the one that is read into, th2 the other -/
theorem fs_151s {n th th2 : Nat} {s : ps_S} {T : Nat → Nat} {N : Nat} {R : Int32 → ps_S → Prop} (hth : th = 2 ∨ th = 26) (h3 : ps_r s 0 3 = th) (h2 : ps_r s 0 2 = th2) (hb : cv_base s th) (hx : (ps_i s 0 1).toInt = N) (hN : N ≤ 1600) (hT : ∀ k, k < N → (ps_a s 1 k &&& 255).toInt = T k) (hkw : ∀ (k : Nat) (w : List Nat), tx_keys[k]? = some w → ps_b s 904 k = tx_x w) (k1 : ∀ (v : Int32) (s' : ps_S) (h : tx_H) (p : Nat), gt_go (tx_ln T N) (0, (([], []), []), 0, 0) (3, h, p, 0) → v.toInt = h.2.length → cv_H s' th h → ps_r s' 0 2 = th ∧ ps_r s' 0 3 = th2 → cv_W s' 934 [] → (ps_i s' 902 9).toInt = 0 ∧ (ps_i s' 902 10).toInt = -1 → R v s') (k0 : ∀ (s' : ps_S) (h : tx_H) (pl k : Nat), gt_go (tx_ln T N) (0, (([], []), []), 0, 0) (4, h, pl, k) → (ps_i s' 902 9).toInt = k → (ps_i s' 902 10).toInt = pl → cfr (fun q => q = 0 ∨ cv_HC th q) s s' → ps_r s' 0 2 = th2 ∧ ps_r s' 0 3 = th → R (-1) s') : pl_Cl n 151 [.ref 0] s (ps_rI R) := by
  cases n with
  | zero => exact pl_At_0
  | succ n =>
  show pl_At (n + 1) 151 0 [(0, .ref 0)] [] s (ps_rI R)
  refine pl_151_0 ?_
  rw [h3]
  refine fs_58 hth hb hx hN hT hkw (fun s16 q16 => ?_) (fun s16 q16 => ?_)
  · refine ⟨fun h26 => ?_, fun h26 => ?_⟩
    · refine fs_31d (fun s53 q53 => ?_)
      refine fs_108d (fun s60 q60 => ?_)
      obtain ⟨h, p, g, L, F⟩ := q16
      have n0 : ¬ cv_HC th 0 := fun z => by unfold cv_HC at z; omega
      have h30 : ps_r s16 0 3 = th := ((F 0 n0).2.2.1 3).trans h3
      have h20 : ps_r s16 0 2 = th2 := ((F 0 n0).2.2.1 2).trans h2
      have K := cfr_tr q53 q60
      have r2 : ps_r s60 0 2 = th := ((K 0 (kkC_n (Or.inl (by decide)))).2.2.1 2).trans h30
      have r3 : ps_r s60 0 3 = th2 := ((K 0 (kkC_n (Or.inl (by decide)))).2.2.1 3).trans h20
      have hn : ∀ q, th ≤ q → q < th + 8 + 2 * h.2.length → ¬ kkC q := fun q a b => kkC_n (Or.inl (by have := L.2.2.2.1.2.2.1; omega))
      have H1 : cv_H (ps_ur (ps_ur (ps_ui s16 0 1 0) 0 2 (ps_r (ps_ui s16 0 1 0) 0 3)) 0 3 (ps_r (ps_ui s16 0 1 0) 0 2)) th h := cv_H_cfr L.2.2.2.1 (cfr_r (cfr_r (cfr_i cfr_refl rfl) rfl) rfl : cfr (fun q => q = 0) s16 _) (fun q a b z => by omega)
      have H2 := cv_H_cfr H1 K hn
      refine fs_151d_65 (fun s' K3 W => ?_) (by omega) n cfr_refl
      rw [r2]
      have K4 := cfr_tr K K3
      exact k1 _ s' h p g H2.2.1 (cv_H_cfr H2 K3 hn) ⟨((K3 0 (kkC_n (Or.inl (by decide)))).2.2.1 2).trans r2, ((K3 0 (kkC_n (Or.inl (by decide)))).2.2.1 3).trans r3⟩ W (by rw [(K4 902 (kkC_n (Or.inr rfl))).1 9, (K4 902 (kkC_n (Or.inr rfl))).1 10]; exact L.2.2.2.2.2.2.2.2)
    · exact absurd h26 (by decide)
  · refine ⟨fun h26 => ?_, fun h26 => ?_⟩
    · exact absurd h26 (by decide)
    · obtain ⟨h, pl, k, g, e1, e2, F⟩ := q16
      have n0 : ¬ cv_HC th 0 := fun z => by unfold cv_HC at z; omega
      exact k0 _ h pl k g e1 e2 (cfr_i (cfr_mono F (fun q z => Or.inr z)) (Or.inl rfl)) ⟨((F 0 n0).2.2.1 2).trans h2, ((F 0 n0).2.2.1 3).trans h3⟩

