set_option maxRecDepth 100000
/-! the class reads a proof, step by step -/
theorem cv_P_add {s s' : ps_S} {fr : List (List Nat)} {w : List Nat} (hP : cv_P s fr) (hl : fr.length < 12) (hw : tx_w w) (e2 : (ps_i s' 902 2).toInt = (fr.length : Int) + 1) (eb : ∀ k, k < fr.length → ps_b s' 906 k = ps_b s 906 k) (en : ps_b s' 906 fr.length = tx_x w) : cv_P s' (fr ++ [w]) := by
  obtain ⟨f1, f2, f3⟩ := hP
  have hlen : (fr ++ [w]).length = fr.length + 1 := List.length_append
  refine ⟨by omega, by omega, fun k w' hk => ?_⟩
  by_cases hkl : k < fr.length
  · rw [List.getElem?_append_left hkl] at hk
    rw [eb k hkl]
    exact f3 k w' hk
  · have hk' := (List.getElem?_eq_some_iff.mp hk).1
    have e : k = fr.length := by omega
    rw [e] at hk ⊢
    rw [List.getElem?_append_right (Nat.le_refl _), Nat.sub_self, List.getElem?_cons_zero] at hk
    cases hk
    exact ⟨hw, en⟩
section PVB
variable {T : Nat → Nat} {N : Nat} {h : tx_H} {s0 s : ps_S} {p i th : Nat} {P : List tp_P} {c : tp_P} {fr : List (List Nat)} {q : Nat} {C0 : pv_C} {R : Int32 → ps_S → Prop}
theorem fs_77p {n : Nat} {g : tx_g} (hth : th = 2 ∨ th = 26) (L : pv_L s th T N fr q) (hE : cv_E s th g) (k1 : ((tx_tok T N q).1 = 2 ∧ tx_at (g.1.map Prod.fst) (tx_tok T N q).2.2.2.1 = none ∧ tx_at (g.2.map Prod.fst) (tx_tok T N q).2.2.2.1 = none) → R 1 s) (k0 : ¬ ((tx_tok T N q).1 = 2 ∧ tx_at (g.1.map Prod.fst) (tx_tok T N q).2.2.2.1 = none ∧ tx_at (g.2.map Prod.fst) (tx_tok T N q).2.2.2.1 = none) → R 0 s) : pl_Cl n 77 [.ref 902] s (ps_rI R) := by
  cases n with
  | zero => exact pl_At_0
  | succ n =>
  show pl_At (n + 1) 77 0 [(0, .ref 902)] [] s (ps_rI R)
  obtain ⟨l1, l2, l3, HK, -⟩ := L
  have hw := (tx_tok_ok (T := T) l3).2.2.2.1
  have h4 := HK.1
  refine pl_77_0 ⟨fun h8 => ?_, fun h8 => ?_⟩
  · have h8 : (ps_i s 903 4).toInt ≠ (2 : Int) := xne h8
    exact k0 (fun z => by have := z.1; omega)
  · have h8 : (ps_i s 903 4).toInt = (2 : Int) := xeq h8
    have h2 : (tx_tok T N q).1 = 2 := by omega
    rw [l1]
    refine fs_130 hth hE (hw h2) (HK.2.2.2.1 h2) (fun q22 => ⟨fun _ => k0 (fun z => q22 z.2), fun w => absurd w (by decide)⟩) (fun q22 => ⟨fun w => absurd rfl w, fun _ => k1 ⟨h2, q22⟩⟩)
/-- a name that may be free: its number -/
def pv_F (s : ps_S) (th : Nat) (T : Nat → Nat) (N : Nat) (fr : List (List Nat)) (q : Nat) (v : Int32) (s' : ps_S) : Prop := (∃ a fr2, tx_fi fr (tx_tok T N q).2.2.2.1 = some (a, fr2) ∧ a < 12 ∧ v.toInt = (60 + a : Nat) ∧ pv_L s' th T N fr2 q ∧ cfr (fun r => r = 902 ∨ r = 906) s s') ∨ (tx_fi fr (tx_tok T N q).2.2.2.1 = none ∧ v.toInt = -1 ∧ s' = s)
theorem fs_79p_47 {n : Nat} (L : pv_L s th T N fr q) (h2 : (tx_tok T N q).1 = 2) (hno : tx_at fr (tx_tok T N q).2.2.2.1 = none) (k : ∀ v s', pv_F s th T N fr q v s' → R v s') : pl_At n 79 47 [(0, .ref 902)] [] s (ps_rI R) := by
  cases n with
  | zero => exact pl_At_0
  | succ n =>
  have HK := L.2.2.2.1
  have hw := (tx_tok_ok (T := T) L.2.2.1).2.2.2.1 h2
  obtain ⟨f1, f2, f3⟩ := L.2.2.2.2.1
  refine pl_79_47 ⟨fun h51 => ?_, fun h51 => ⟨fun h63 => ?_, fun h63 => ?_⟩⟩
  · have h51 : (ps_i s 902 2).toInt < (0 : Int) := xlt h51
    exfalso
    omega
  · have h63 : (ps_i s 902 2).toInt < (12 : Int) := xlt h63
    intro _
    have e : tx_fi fr (tx_tok T N q).2.2.2.1 = some (fr.length, fr ++ [(tx_tok T N q).2.2.2.1]) := by
      unfold tx_fi
      rw [hno]
      dsimp only
      rw [if_pos (by omega)]
    refine k _ _ (Or.inl ⟨_, _, e, by omega, ?_, ?_, ?_⟩)
    · show ((60 + (ps_i s 902 2 + 1)) - 1 : Int32).toInt = _
      have h60 : (60 : Int32).toInt = 60 := by decide
      have h1 : (1 : Int32).toInt = 1 := by decide
      have e1 : (ps_i s 902 2 + 1 : Int32).toInt = fr.length + 1 := by rw [xIa (by omega) (by omega)]; omega
      have e2 : (60 + (ps_i s 902 2 + 1) : Int32).toInt = fr.length + 61 := by rw [xIa (by omega) (by omega)]; omega
      rw [xIs (by omega) (by omega)]
      omega
    · rw [xtn f1]
      have F : cfr (fun r => r = 902 ∨ r = 906) s (ps_ui (ps_ub s 906 fr.length (ps_j s 903 8)) 902 2 (ps_i (ps_ub s 906 fr.length (ps_j s 903 8)) 902 2 + 1)) := cfr_i (cfr_b cfr_refl (Or.inr rfl)) (Or.inl rfl)
      obtain ⟨l1, l2, l3, l4, l5, l6, l7, l8, l9⟩ := L
      have e3 := F 903 (by decide)
      refine ⟨l1, cv_T_cfr l2 F (e3.2.2.1 1) (e3.1 2) (by decide) (by decide), l3, ?_, cv_P_add l5 (by omega) hw ?_ (fun k hk => ?_) ?_, l6, l7, l8, l9⟩
      · unfold cv_K at *
        rw [e3.1, e3.1, e3.1, e3.1, e3.1, e3.2.1]
        exact l4
      · rw [ps_i_ui, if_pos ⟨rfl, rfl⟩, ps_i_ub]
        have h1 : (1 : Int32).toInt = 1 := by decide
        rw [xIa (by omega) (by omega)]
        omega
      · rw [ps_b_ui, ps_b_ub, if_neg (by omega)]
      · rw [ps_b_ui, ps_b_ub, if_pos ⟨rfl, rfl⟩]
        exact HK.2.2.2.1 h2
    · rw [xtn f1]
      exact cfr_i (cfr_b cfr_refl (Or.inr rfl)) (Or.inl rfl)
  · have h63 : (12 : Int) ≤ (ps_i s 902 2).toInt := xle h63
    have e : tx_fi fr (tx_tok T N q).2.2.2.1 = none := by
      unfold tx_fi
      rw [hno]
      dsimp only
      rw [if_neg (by omega)]
    exact k _ _ (Or.inr ⟨e, by decide, rfl⟩)
theorem fs_79p_2 (L : pv_L s th T N fr q) (h2 : (tx_tok T N q).1 = 2) (k : ∀ v s', pv_F s th T N fr q v s' → R v s') : ∀ (n : Nat) {x1 : Int32} {j : Nat}, x1.toInt = j → j ≤ fr.length → (∀ m, m < j → fr[m]? ≠ some (tx_tok T N q).2.2.2.1) → pl_At n 79 2 [(0, .ref 902), (1, .int x1)] [] s (ps_rI R)
  | 0, _, _, _, _, _ => pl_At_0
  | n + 1, x1, j, hx, hi, hj => by
    have HK := L.2.2.2.1
    have hw := (tx_tok_ok (T := T) L.2.2.1).2.2.2.1 h2
    have h8 := HK.2.2.2.1 h2
    obtain ⟨f1, f2, f3⟩ := L.2.2.2.2.1
    refine pl_79_2 ⟨fun h7 => ?_, fun h7 => ⟨fun h16 => ?_, fun h16 => fun _ => ?_⟩⟩
    · have h7 : (ps_i s 902 2).toInt ≤ x1.toInt := xle h7
      exact fs_79p_47 L h2 (tx_at_no (fun m hm => hj m (by omega))) k
    · have h7 : x1.toInt < (ps_i s 902 2).toInt := xlt h7
      have h16 : (12 : Int) ≤ x1.toInt := xle h16
      exfalso
      omega
    · have h7 : x1.toInt < (ps_i s 902 2).toInt := xlt h7
      obtain ⟨w0, hg1⟩ : ∃ w0, fr[j]? = some w0 := ⟨fr[j]'(by omega), List.getElem?_eq_getElem _⟩
      obtain ⟨hg2, hg3⟩ := f3 j w0 hg1
      refine ⟨fun h33 => ?_, fun h33 => ?_⟩
      · have h33 := lg_nz h33
        refine fs_79p_2 L h2 k n (xj1 hx (by omega)) (by omega) (fun m hm => ?_)
        by_cases ej : m = j
        · rw [ej, hg1]
          intro z
          cases z
          exact h33 (by rw [xtn hx, hg3, h8])
        · exact hj m (by omega)
      · have h33 := lg_z h33
        rw [xtn hx, hg3] at h33
        have e : tx_fi fr (tx_tok T N q).2.2.2.1 = some (j, fr) := by
          unfold tx_fi
          rw [tx_at_is (by rw [hg1, tx_x_inj hg2 hw (h33.trans h8)]) hj]
        refine k _ _ (Or.inl ⟨_, _, e, by omega, ?_, L, cfr_refl⟩)
        have h60 : (60 : Int32).toInt = 60 := by decide
        rw [xIa (by omega) (by omega)]
        omega
theorem fs_79p {n : Nat} (L : pv_L s th T N fr q) (h2 : (tx_tok T N q).1 = 2) (k : ∀ v s', pv_F s th T N fr q v s' → R v s') : pl_Cl n 79 [.ref 902] s (ps_rI R) := by
  cases n with
  | zero => exact pl_At_0
  | succ n =>
  show pl_At (n + 1) 79 0 [(0, .ref 902)] [] s (ps_rI R)
  refine pl_79_0 ?_
  exact fs_79p_2 L h2 k n (j := 0) rfl (Nat.zero_le _) (fun j hj => by omega)
theorem Ct_S (r : Nat) (h : (fun q => q = stc p i) r) : CTS p i r := by
  have h : r = stc p i := h
  unfold CTS
  omega
/-- the axiom's name -/
theorem fs_67 {n : Nat} (hp : p = 50 ∨ p = 460) (hi : i < 40) (hth : th = 2 ∨ th = 26) (hr : c.1.1 = 10) (X : pv_X T N h s0 s p i th P c fr q 8 C0) (M : cq5 h s (stc p i) c) (k1 : ∀ s', (∃ a q', pv_X T N h s0 s' p i th P (c.1, (a, c.2.1.2), c.2.2) fr q' 9 C0 ∧ cq6 h s' (stc p i) (c.1, (a, c.2.1.2), c.2.2)) → R 1 s') (k0 : ∀ s', pv_no T N h s0 s' p i C0 → R 0 s') : pl_Cl n 67 [.ref 902, .ref (stc p i)] s (ps_rI R) := by
  cases n with
  | zero => exact pl_At_0
  | succ n =>
  show pl_At (n + 1) 67 0 [(0, .ref 902), (1, .ref (stc p i))] [] s (ps_rI R)
  obtain ⟨l1, l2, l3, HK, -⟩ := id X.1
  have hok := tx_tok_ok (T := T) l3
  have hlt := stc_lt hp hi
  have h4 := HK.1
  refine pl_67_0 ⟨fun w => ?_, fun w => ?_⟩
  · have w : (ps_i s 903 4).toInt = 2 := xeq w
    have h2 : (tx_tok T N q).1 = 2 := by omega
    rw [l1]
    refine fs_129 hth X.2.1 (hok.2.2.2.1 h2) (HK.2.2.2.1 h2) (fun v qv => pl_nk_i (fun _ => pl_nk_i (fun _ => ?_)))
    have e2 : ps_i (ps_ui s (stc p i) 2 v) (stc p i) 2 = v := by rw [ps_i_ui, if_pos ⟨rfl, rfl⟩]
    rw [e2]
    have F1 : cfr (fun r => r = stc p i) s (ps_ui s (stc p i) 2 v) := cfr_i cfr_refl rfl
    have n1 : ∀ r, 900 < r → ¬ (fun r => r = stc p i) r := fun r a b => by
      have b : r = stc p i := b
      omega
    have L1 : pv_L (ps_ui s (stc p i) 2 v) th T N fr q := pv_L_cfr X.1 F1 (fun b => by have b : 1 = stc p i := b; omega) (n1 _ (by omega)) (n1 _ (by omega)) (n1 _ (by omega)) (n1 _ (by omega))
    refine ⟨fun w1 => ?_, fun w1 => ?_⟩
    · cases ha : tx_at (tx_A h) (tx_tok T N q).2.2.2.1 with
      | none => exact absurd (Int32.toInt_inj.mp ((qv.2 ha).trans (by decide))) w1
      | some a =>
      have hv : v.toInt = a := qv.1 a ha
      have hal : a < h.2.length := by
        have := tx_at_lt ha
        unfold tx_A at this
        rw [List.length_map] at this
        exact this
      have X1 : pv_X T N h s0 (ps_ui s (stc p i) 2 v) p i th P (c.1, (a, c.2.1.2), c.2.2) fr (tx_tok T N q).2.2.1 9 C0 → True := fun _ => trivial
      refine fs_140 L1.2.1 L1.2.2.2.1.2.2.1 hok.2.1 (fun s2 q2 => ?_)
      have F2 : cfr (CTS p i) s s2 := cfr_tr (cfr_mono F1 Ct_S) (cfr_mono (cfr_fl q2.1) C903_S)
      refine k1 _ ⟨a, _, pv_X_mv X hp hth F2 (fun _ z => z) (pv_L_adv L1 hok.2.1 q2) (gt_one ?_), ?_⟩
      · rw [pv_st_8]
        unfold pv_8
        rw [if_pos hr, if_pos h2, ha]
        try rfl
      · obtain ⟨⟨n1, z1⟩, g0, g1, g2, g3⟩ := M
        have e : ∀ f, f ≠ 2 → ps_i s2 (stc p i) f = ps_i s (stc p i) f := fun f hf => by
          rw [(cfr_fl q2.1 (stc p i) (by omega)).1, ps_i_ui, if_neg (fun z => hf z.2)]
        refine ⟨⟨cpN_eq n1 (e 0 (by decide)) ?_, cpZ_eq z1 (fun f hf => e f (by omega)), fun _ => ?_, fun z => ?_⟩, ⟨g0, g1, g2, g3⟩, fun z => ?_, fun _ => hal⟩
        · rw [(cfr_fl q2.1 (stc p i + 1) (by omega)).2.2.2.1]
          rfl
        · rw [(cfr_fl q2.1 (stc p i) (by omega)).1, e2]
          exact hv
        · have z : c.1.1 = 21 ∨ c.1.1 = 24 := z
          omega
        · have z : c.1.1 = 21 ∨ c.1.1 = 24 := z
          omega
    · have hv : v.toInt = -1 := by
        rw [w1]
        decide
      have ha : tx_at (tx_A h) (tx_tok T N q).2.2.2.1 = none := by
        cases ha : tx_at (tx_A h) (tx_tok T N q).2.2.2.1 with
        | none => rfl
        | some a =>
          have := qv.1 a ha
          omega
      refine fs_62g (K := 6) L1.2.2.2.1 rfl (fun s2 q2 => pl_nk_i (fun _ => ?_))
      have F2 : cfr (CTS p i) s s2 := cfr_tr (cfr_mono F1 Ct_S) (cfr_mono q2.2.2 C902_S)
      refine k0 _ (pv_X_no (Y := (P, c)) (fr' := fr) (k := 6) X F2 (fun _ z => z) (gt_one ?_) (by have z := q2.1; rw [if_neg (by omega)] at z; exact z) q2.2.1)
      rw [pv_st_8]
      unfold pv_8
      rw [if_pos hr, if_pos h2, ha]
      try rfl
  · have w : (ps_i s 903 4).toInt ≠ 2 := xne w
    refine pv_62 X (gt_one ?_) k0
    rw [pv_st_8]
    unfold pv_8
    rw [if_pos hr, if_neg (by omega)]
/-- an X -/
theorem fs_68 {n : Nat} (hp : p = 50 ∨ p = 460) (hi : i < 40) (hth : th = 2 ∨ th = 26) (hr : tp_hx c.1.1) (X : pv_X T N h s0 s p i th P c fr q 8 C0) (M : cq5 h s (stc p i) c) (k1 : ∀ s', (∃ a fr' q', pv_X T N h s0 s' p i th P (c.1, (c.2.1.1, a), c.2.2) fr' q' 9 C0 ∧ cq6 h s' (stc p i) (c.1, (c.2.1.1, a), c.2.2)) → R 1 s') (k0 : ∀ s', pv_no T N h s0 s' p i C0 → R 0 s') : pl_Cl n 68 [.ref 902, .ref (stc p i)] s (ps_rI R) := by
  cases n with
  | zero => exact pl_At_0
  | succ n =>
  show pl_At (n + 1) 68 0 [(0, .ref 902), (1, .ref (stc p i))] [] s (ps_rI R)
  obtain ⟨l1, l2, l3, HK, -⟩ := id X.1
  have hok := tx_tok_ok (T := T) l3
  have hlt := stc_lt hp hi
  have h4 := HK.1
  have h10 : ¬ c.1.1 = 10 := fun z => by
    have hr : c.1.1 = 21 ∨ c.1.1 = 24 := hr
    omega
  refine pl_68_0 (fs_77p hth X.1 X.2.1.1 (fun hX => ⟨fun _ => ?_, fun w => absurd w (by decide)⟩) (fun hX => ⟨fun w => absurd rfl w, fun _ => ?_⟩))
  · refine fs_79p X.1 hX.1 (fun v s1 hF => pl_nk_i (fun _ => pl_nk_i (fun _ => ?_)))
    have e2 : ps_i (ps_ui s1 (stc p i) 3 v) (stc p i) 3 = v := by rw [ps_i_ui, if_pos ⟨rfl, rfl⟩]
    rw [e2]
    have F1 : cfr (fun r => r = stc p i) s1 (ps_ui s1 (stc p i) 3 v) := cfr_i cfr_refl rfl
    have n1 : ∀ r, 900 < r → ¬ (fun r => r = stc p i) r := fun r a b => by
      have b : r = stc p i := b
      omega
    rcases hF with ⟨a, fr2, e, ha, hv, L0, F0⟩ | ⟨e, hv, rfl⟩
    · refine ⟨fun w1 => ?_, fun w1 => ?_⟩
      · have L1 : pv_L (ps_ui s1 (stc p i) 3 v) th T N fr2 q := pv_L_cfr L0 F1 (fun b => by have b : 1 = stc p i := b; omega) (n1 _ (by omega)) (n1 _ (by omega)) (n1 _ (by omega)) (n1 _ (by omega))
        refine fs_140 L1.2.1 L1.2.2.2.1.2.2.1 hok.2.1 (fun s2 q2 => ?_)
        have F01 : cfr (CTS p i) s (ps_ui s1 (stc p i) 3 v) := cfr_tr (cfr_mono F0 (fun r z => by
          have z : r = 902 ∨ r = 906 := z
          unfold CTS
          omega)) (cfr_mono F1 Ct_S)
        have F2 : cfr (CTS p i) s s2 := cfr_tr F01 (cfr_mono (cfr_fl q2.1) C903_S)
        refine k1 _ ⟨a, fr2, _, pv_X_mv X hp hth F2 (fun _ z => z) (pv_L_adv L1 hok.2.1 q2) (gt_one ?_), ?_⟩
        · rw [pv_st_8]
          unfold pv_8
          rw [if_neg h10, if_pos hr, if_pos hX, e]
          try rfl
        · obtain ⟨⟨n1, z1⟩, g0, g1, g2, g3⟩ := M
          have e' : ∀ f, f ≠ 3 → ps_i s2 (stc p i) f = ps_i s (stc p i) f := fun f hf => by
            rw [(cfr_fl q2.1 (stc p i) (by omega)).1, ps_i_ui, if_neg (fun z => hf z.2)]
            exact (F0 (stc p i) (fun z => by have z : stc p i = 902 ∨ stc p i = 906 := z; omega)).1 f
          refine ⟨⟨cpN_eq n1 (e' 0 (by decide)) ?_, cpZ_eq z1 (fun f hf => e' f (by omega)), fun z => absurd z h10, fun _ => ?_⟩, ⟨g0, g1, g2, g3⟩, fun _ => ha, fun z => absurd z h10⟩
          · rw [(cfr_fl q2.1 (stc p i + 1) (by omega)).2.2.2.1]
            exact (F0 (stc p i + 1) (fun z => by have z : stc p i + 1 = 902 ∨ stc p i + 1 = 906 := z; omega)).2.2.2.1
          · rw [(cfr_fl q2.1 (stc p i) (by omega)).1, e2]
            exact hv
      · exfalso
        rw [w1] at hv
        have : ((-1 : Int32)).toInt = -1 := by decide
        omega
    · refine ⟨fun w1 => absurd (Int32.toInt_inj.mp (hv.trans (by decide))) w1, fun w1 => ?_⟩
      have L1 : pv_L (ps_ui s1 (stc p i) 3 v) th T N fr q := pv_L_cfr X.1 F1 (fun b => by have b : 1 = stc p i := b; omega) (n1 _ (by omega)) (n1 _ (by omega)) (n1 _ (by omega)) (n1 _ (by omega))
      refine fs_62g (K := 2) L1.2.2.2.1 rfl (fun s2 q2 => pl_nk_i (fun _ => ?_))
      have F2 : cfr (CTS p i) s1 s2 := cfr_tr (cfr_mono F1 Ct_S) (cfr_mono q2.2.2 C902_S)
      refine k0 _ (pv_X_no (Y := (P, c)) (fr' := fr) (k := 2) X F2 (fun _ z => z) (gt_one ?_) (by have z := q2.1; rw [if_neg (by omega)] at z; exact z) q2.2.1)
      rw [pv_st_8]
      unfold pv_8
      rw [if_neg h10, if_pos hr, if_pos hX, e]
      try rfl
  · refine pv_62 X (gt_one ?_) k0
    rw [pv_st_8]
    unfold pv_8
    rw [if_neg h10, if_pos hr, if_neg hX]
theorem fs_66_102 {n : Nat} {x2 : Int32} (hp : p = 50 ∨ p = 460) (hi : i < 40) (hth : th = 2 ∨ th = 26) (hF : h.1.2.length ≤ 4) (hx2 : x2.toInt = c.1.1) (A : (c.1.1 ≠ 10 ∧ pv_X T N h s0 s p i th P c fr q 8 C0 ∧ cq5 h s (stc p i) c) ∨ (c.1.1 = 10 ∧ pv_X T N h s0 s p i th P c fr q 9 C0 ∧ cq6 h s (stc p i) c)) (k1 : ∀ s', pv_ok T N h s0 s' p i th P C0 → R 1 s') (k0 : ∀ s', pv_no T N h s0 s' p i C0 → R 0 s') : pl_At n 66 102 [(0, .ref 902), (1, .ref (stc p i)), (2, .int x2)] [] s (ps_rI R) := by
  cases n with
  | zero => exact pl_At_0
  | succ n =>
  refine pl_66_102 (fs_117 hx2 (fun hf => ⟨fun w => absurd w (by decide), fun _ => ?_⟩) (fun hf => ⟨fun _ => ?_, fun w => absurd rfl w⟩))
  · rcases A with ⟨h10, X, M⟩ | ⟨h10, -, -⟩
    · refine fs_68 hp hi hth hf X M (fun s1 q1 => ⟨fun _ => ?_, fun w => absurd w (by decide)⟩) (fun s1 q1 => ⟨fun w => absurd rfl w, fun _ => k0 _ q1⟩)
      obtain ⟨a, fr', q', X1, M1⟩ := q1
      exact fs_66_119 (c := (c.1, (c.2.1.1, a), c.2.2)) hp hi hth hF hx2 X1 M1 k1 k0
    · exfalso
      have hf : c.1.1 = 21 ∨ c.1.1 = 24 := hf
      omega
  · rcases A with ⟨h10, X, M⟩ | ⟨h10, X, M⟩
    · refine fs_66_119 hp hi hth hF hx2 (pv_X_mv X hp hth (cfr_refl (C := fun _ => False)) (fun r z => z.elim) X.1 (gt_one ?_)) ⟨⟨M.1.1, M.1.2, fun z => absurd z h10, fun z => absurd z hf⟩, M.2, fun z => absurd z hf, fun z => absurd z h10⟩ k1 k0
      rw [pv_st_8]
      unfold pv_8
      rw [if_neg h10, if_neg hf]
    · exact fs_66_119 hp hi hth hF hx2 X M k1 k0
theorem fs_66_35 {x2 : Int32} (hp : p = 50 ∨ p = 460) (hi : i < 40) (hth : th = 2 ∨ th = 26) (hF : h.1.2.length ≤ 4) (k1 : ∀ s', pv_ok T N h s0 s' p i th P C0 → R 1 s') (k0 : ∀ s', pv_no T N h s0 s' p i C0 → R 0 s') : ∀ (n : Nat) {s : ps_S} {c : tp_P} {q j : Nat} {x3 : Int32}, x3.toInt = j → j ≤ tp_nn c.1.1 → x2.toInt = c.1.1 → pv_X T N h s0 s p i th P c fr q (5 + j) C0 → (ps_i s (stc p i) 0).toInt = c.1.1 → cpZ s (stc p i) → (∀ m, m < j → (ps_a s (stc p i + 1) m).toInt = pr_k c m) → (tp_ok c.1.1 ∧ c.1.2.1 < 10000 ∧ c.1.2.2.1 < 10000 ∧ c.1.2.2.2 < 10000) → pl_At n 66 35 [(0, .ref 902), (1, .ref (stc p i)), (2, .int x2), (3, .int x3)] [] s (ps_rI R)
  | 0, _, _, _, _, _, _, _, _, _, _, _, _, _ => pl_At_0
  | n + 1, s, c, q, j, x3, h3, hj, hx2, X, e0, Z, hn, g0 => by
    have h33 := tp_nn_3 (r := c.1.1)
    have hlt := stc_lt hp hi
    refine pl_66_35 (fs_115 hx2 g0.1 (fun v hv => ⟨fun w => ?_, fun w => ?_⟩))
    · have w := xle w
      have ej : j = tp_nn c.1.1 := by omega
      have X8 := pv_X_mv X hp hth (cfr_refl (C := fun _ => False)) (fun r z => z.elim) X.1 (pv_to8 (by omega) ej)
      have M : cq5 h s (stc p i) c := ⟨⟨⟨e0, fun z => hn 0 (by omega), fun z => hn 1 (by omega), fun z => hn 2 (by omega)⟩, Z⟩, g0⟩
      refine ⟨fun w1 => ?_, fun w1 => ?_⟩
      · have w1 : x2.toInt ≠ 10 := xne w1
        exact fs_66_102 hp hi hth hF hx2 (Or.inl ⟨by omega, X8, M⟩) k1 k0
      · have w1 : x2.toInt = 10 := xeq w1
        refine fs_67 hp hi hth (by omega) X8 M (fun s1 q1 => ⟨fun w => absurd w (by decide), fun _ => ?_⟩) (fun s1 q1 => ⟨fun _ => k0 _ q1, fun w => absurd rfl w⟩)
        obtain ⟨a, q', X1, M1⟩ := q1
        exact fs_66_102 (c := (c.1, (a, c.2.1.2), c.2.2)) hp hi hth hF hx2 (Or.inr ⟨show c.1.1 = 10 by omega, X1, M1⟩) k1 k0
    · have w := xlt w
      have hj3 : j < 3 := by omega
      obtain ⟨l1, l2, l3, HK, -⟩ := id X.1
      have hok := tx_tok_ok (T := T) l3
      have h4 := HK.1
      refine ⟨fun w1 => pl_nk_i (fun _ => ?_), fun w1 => ?_⟩
      · have w1 : (ps_i s 903 4).toInt = 4 := xeq w1
        have t4 : (tx_tok T N q).1 = 4 := by omega
        have hnum : (ps_i s 903 7).toInt = (tx_tok T N q).2.2.2.2 := HK.2.2.2.2.2 t4
        have hb := hok.2.2.2.2.2 t4
        have hln : ps_ln (stc p i + 1) = 3 := (str (stc_is hp hi) hlt.2.1).2.1.1
        rw [(stc_c hp hi).1]
        refine fs_183 h3 (by rw [hln]; exact hj3) (by rw [hln]; decide) ?_
        have F1 : cfr (fun r => r = stc p i + 1) s (ps_ua s (stc p i + 1) j (ps_i s 903 7)) := cfr_a cfr_refl rfl
        have n1 : ∀ r, 901 < r → ¬ (fun r => r = stc p i + 1) r := fun r a b => by
          have b : r = stc p i + 1 := b
          omega
        have L1 : pv_L (ps_ua s (stc p i + 1) j (ps_i s 903 7)) th T N fr q := pv_L_cfr X.1 F1 (fun b => by have b : 1 = stc p i + 1 := b; omega) (n1 _ (by omega)) (n1 _ (by omega)) (n1 _ (by omega)) (n1 _ (by omega))
        refine fs_140 L1.2.1 L1.2.2.2.1.2.2.1 hok.2.1 (fun s2 q2 => ?_)
        have F2 : cfr (CTS p i) s s2 := cfr_tr (cfr_mono F1 (fun r z => by
          have z : r = stc p i + 1 := z
          unfold CTS
          omega)) (cfr_mono (cfr_fl q2.1) C903_S)
        obtain ⟨er, e2⟩ := pv_set_r (c := c) (j := j) (v := (tx_tok T N q).2.2.2.2)
        have ef : ∀ f, ps_i s2 (stc p i) f = ps_i s (stc p i) f := fun f => (cfr_fl q2.1 (stc p i) (by omega)).1 f
        refine fs_66_35 hp hi hth hF k1 k0 n (c := pv_set c j (tx_tok T N q).2.2.2.2) (j := j + 1) (xj1 h3 (by omega)) (by rw [er]; omega) (by rw [er]; exact hx2) (pv_X_mv X hp hth F2 (fun _ z => z) (pv_L_adv L1 hok.2.1 q2) (pv_num (by omega) hj3 t4)) (by rw [ef, er]; exact e0) (cpZ_eq Z (fun f _ => ef f)) (fun m hm => ?_) ?_
        · rw [(cfr_fl q2.1 (stc p i + 1) (by omega)).2.2.2.1, ps_a_ua, pv_set_k hj3 (by omega)]
          by_cases em : m = j
          · rw [if_pos ⟨rfl, em⟩, if_pos em]
            exact hnum
          · rw [if_neg (fun z => em z.2), if_neg em]
            exact hn m (by omega)
        · obtain ⟨g1, g2, g3, g4⟩ := g0
          rw [er]
          refine ⟨g1, ?_⟩
          unfold pv_set
          split
          · exact ⟨hb, g3, g4⟩
          · split
            · exact ⟨g2, hb, g4⟩
            · exact ⟨g2, g3, hb⟩
      · have w1 : (ps_i s 903 4).toInt ≠ 4 := xne w1
        exact pv_62 X (pv_nno (by omega) hj3 (by omega)) k0
theorem fs_120 {n t : Nat} {x1 : Int32} {s : ps_S} {R : ps_S → Prop} (e4 : ps_c0 t 4 = t + 2) (e5 : ps_c0 t 5 = t + 4) (e6 : ps_c0 t 6 = t + 6) (k : ∀ s', (ps_i s' t 0 = x1 ∧ cpZ s' t ∧ cfr (fun q => t ≤ q ∧ q ≤ t + 8) s s') → R s') : pl_Cl n 120 [.ref t, .int x1] s (ps_rV R) := by
  cases n with
  | zero => exact pl_At_0
  | succ n =>
  show pl_At (n + 1) 120 0 [(0, .ref t), (1, .int x1)] [] s (ps_rV R)
  refine pl_120_0 ?_
  rw [e4, e5, e6]
  refine pl_nk_i (fun _ => pl_nk_i (fun _ => pl_nk_i (fun _ => pl_nk_i (fun _ => fs_91 (pl_nk_i (fun _ => fs_91 (pl_nk_i (fun _ => fs_91 (pl_nk_i (fun _ => pl_nk_i (fun _ => pl_nk_i (fun _ => pl_nk_i (fun _ => pl_nk_i (fun _ => ?_))))))))))))))
  refine k _ ⟨?_, ⟨?_, ?_, ?_, ?_⟩, ?_⟩
  · rw [ps_i_uj, ps_i_ui, if_neg (by omega), ps_i_ui, if_neg (by omega), ps_i_ui, if_neg (by omega), ps_i_ui, if_neg (by omega), ps_i_ui, if_neg (by omega), ps_i_ui, if_neg (by omega), ps_i_ui, if_neg (by omega), ps_i_ui, if_neg (by omega), ps_i_ui, if_neg (by omega), ps_i_ui, if_neg (by omega), ps_i_ui, if_neg (by omega), ps_i_ui, if_neg (by omega), ps_i_ui, if_pos ⟨rfl, rfl⟩]
  · rw [ps_i_uj, ps_i_ui, if_neg (by omega), ps_i_ui, if_neg (by omega), ps_i_ui, if_neg (by omega), ps_i_ui, if_pos ⟨rfl, rfl⟩]
    rfl
  · rw [ps_i_uj, ps_i_ui, if_neg (by omega), ps_i_ui, if_neg (by omega), ps_i_ui, if_pos ⟨rfl, rfl⟩]
  · rw [ps_i_uj, ps_i_ui, if_neg (by omega), ps_i_ui, if_pos ⟨rfl, rfl⟩]
  · rw [ps_i_uj, ps_i_ui, if_pos ⟨rfl, rfl⟩]
  · exact cfr_j (cfr_i (cfr_i (cfr_i (cfr_i (cfr_i (cfr_i (cfr_i (cfr_i (cfr_i (cfr_i (cfr_i (cfr_i (cfr_i (cfr_refl) ⟨by omega, by omega⟩) ⟨by omega, by omega⟩) ⟨by omega, by omega⟩) ⟨by omega, by omega⟩) ⟨by omega, by omega⟩) ⟨by omega, by omega⟩) ⟨by omega, by omega⟩) ⟨by omega, by omega⟩) ⟨by omega, by omega⟩) ⟨by omega, by omega⟩) ⟨by omega, by omega⟩) ⟨by omega, by omega⟩) ⟨by omega, by omega⟩) ⟨by omega, by omega⟩
theorem fs_66 {n : Nat} (hp : p = 50 ∨ p = 460) (hi : i < 40) (hPi : P.length = i) (hth : th = 2 ∨ th = 26) (hF : h.1.2.length ≤ 4) (h0 : (tx_tok T N q).1 ≠ 0) (X : pv_X T N h s0 s p i th P c fr q 0 C0) (k1 : ∀ s', pv_ok T N h s0 s' p i th P C0 → R 1 s') (k0 : ∀ s', pv_no T N h s0 s' p i C0 → R 0 s') : pl_Cl n 66 [.ref 902, .ref (stc p i)] s (ps_rI R) := by
  cases n with
  | zero => exact pl_At_0
  | succ n =>
  show pl_At (n + 1) 66 0 [(0, .ref 902), (1, .ref (stc p i))] [] s (ps_rI R)
  obtain ⟨l1, l2, l3, HK, -⟩ := id X.1
  have hok := tx_tok_ok (T := T) l3
  have hlt := stc_lt hp hi
  have h6 := HK.2.2.2.2.1
  refine pl_66_0 (fs_114 (fun w => ⟨fun _ => ?_, fun w' => absurd w' (by decide)⟩) (fun w => ⟨fun w' => absurd rfl w', fun _ => ?_⟩))
  · have t3 : (tx_tok T N q).1 = 3 := by
      by_cases t3 : (tx_tok T N q).1 = 3
      · exact t3
      · rw [if_neg t3] at h6
        omega
    rw [if_pos t3] at h6
    have ho : tp_ok (tx_tok T N q).2.2.2.2 := by
      unfold tp_ok
      omega
    refine fs_120 (stc_c hp hi).2.1 (stc_c hp hi).2.2.1 (stc_c hp hi).2.2.2.1 (fun s1 q1 => ?_)
    obtain ⟨e0, Z1, F1⟩ := q1
    have n1 : ∀ r, 901 < r → ¬ (fun r => stc p i ≤ r ∧ r ≤ stc p i + 8) r := fun r a b => by
      have b : stc p i ≤ r ∧ r ≤ stc p i + 8 := b
      unfold stc at b
      omega
    have L1 : pv_L s1 th T N fr q := pv_L_cfr X.1 F1 (fun b => by have b : stc p i ≤ 1 ∧ 1 ≤ stc p i + 8 := b; omega) (n1 _ (by omega)) (n1 _ (by omega)) (n1 _ (by omega)) (n1 _ (by omega))
    refine fs_140 L1.2.1 L1.2.2.2.1.2.2.1 hok.2.1 (fun s2 q2 => ?_)
    have F2 : cfr (CTS p i) s s2 := cfr_tr (cfr_mono F1 (fun r z => Or.inl z)) (cfr_mono (cfr_fl q2.1) C903_S)
    have ef : ∀ f, ps_i s2 (stc p i) f = ps_i s1 (stc p i) f := fun f => (cfr_fl q2.1 (stc p i) (by omega)).1 f
    refine fs_66_35 hp hi hth hF k1 k0 n (c := (((tx_tok T N q).2.2.2.2, 0, 0, 0), (0, 0), [], [])) (j := 0) rfl (Nat.zero_le _) h6 (pv_X_mv X hp hth F2 (fun _ z => z) (pv_L_adv L1 hok.2.1 q2) (gt_one ?_)) (by rw [ef, e0]; exact h6) (cpZ_eq Z1 (fun f _ => ef f)) (fun m hm => absurd hm (Nat.not_lt_zero _)) ⟨ho, (show 0 < 10000 by decide), (show 0 < 10000 by decide), (show 0 < 10000 by decide)⟩
    show pv_st T N h (0, (P, c), fr, q, 0) = _
    rw [pv_st_0]
    unfold pv_0
    rw [if_neg h0, if_pos ⟨t3, ho, by omega⟩]
  · refine pv_62 X (gt_one ?_) k0
    rw [pv_st_0]
    unfold pv_0
    rw [if_neg h0, if_neg (fun z => ?_)]
    obtain ⟨t3, ho, -⟩ := z
    rw [if_pos t3] at h6
    unfold tp_ok at ho
    omega
/-- a whole proof's text -/
def CTP (p q : Nat) : Prop := (p + 44 ≤ q ∧ q < p + 404) ∨ q = p ∨ q = 902 ∨ q = 903 ∨ q = 906 ∨ q = 907
theorem CTS_P (hp : p = 50 ∨ p = 460) (hi : i < 40) (r : Nat) (h : CTS p i r) : CTP p r := by
  unfold CTS stc at h
  unfold CTP
  omega
def pw_ok (T : Nat → Nat) (N : Nat) (h : tx_H) (s0 s' : ps_S) (p th : Nat) (C0 : pv_C) : Prop := ∃ (L : List tp_P) (c : tp_P) (fr : List (List Nat)) (q : Nat), gt_go (pv_st T N h) C0 (3, (L, c), fr, q, 0) ∧ L.length ≤ 40 ∧ (∀ (k : Nat) (st : tp_P), L[k]? = some st → tp_G h.1 h.2.length st) ∧ cpW s' p L 0 ∧ ((ps_i s' p 7).toInt = L.length ∧ (ps_i s' p 8).toInt = 0 ∧ ps_i s' p 9 = 0) ∧ ((ps_i s' 902 9).toInt = 0 ∧ (ps_i s' 902 10).toInt = -1) ∧ cv_H s' th h ∧ cfr (CTP p) s0 s'
def pw_no (T : Nat → Nat) (N : Nat) (h : tx_H) (s0 s' : ps_S) (p : Nat) (C0 : pv_C) : Prop := ∃ (X : List tp_P × tp_P) (fr : List (List Nat)) (pl k : Nat), gt_go (pv_st T N h) C0 (4, X, fr, pl, k) ∧ (ps_i s' 902 9).toInt = k ∧ (ps_i s' 902 10).toInt = pl ∧ cfr (CTP p) s0 s'
theorem fs_59_15 (hp : p = 50 ∨ p = 460) (hth : th = 2 ∨ th = 26) (hF : h.1.2.length ≤ 4) (k1 : ∀ s', pw_ok T N h s0 s' p th C0 → R 1 s') (k0 : ∀ s', pw_no T N h s0 s' p C0 → R 0 s') : ∀ (n : Nat) {s : ps_S} {x5 : Int32} {P : List tp_P} {c : tp_P} {fr : List (List Nat)} {q : Nat}, x5.toInt = P.length → P.length ≤ 40 → pv_L s th T N fr q → cv_H s th h → gt_go (pv_st T N h) C0 (0, (P, c), fr, q, 0) → cfr (CTP p) s0 s → (∀ (k : Nat) (st : tp_P), P[k]? = some st → tp_G h.1 h.2.length st ∧ cpT s (stc p k) st ∧ cpZ s (stc p k)) → ((ps_i s p 7).toInt = P.length ∧ (ps_i s p 8).toInt = 0 ∧ ps_i s p 9 = 0) → pl_At n 59 15 [(0, .ref 902), (4, .ref p), (5, .int x5)] [] s (ps_rI R)
  | 0, _, _, _, _, _, _, _, _, _, _, _, _, _, _ => pl_At_0
  | n + 1, s, x5, P, c, fr, q, h5, hP, L, H, g, F, hS, hpf => by
    obtain ⟨l1, l2, l3, HK, l5, l6, l7, l8, l9⟩ := id L
    have h4 := HK.1
    refine pl_59_15 ⟨fun w => ?_, fun _ => ⟨fun w => ?_, fun w => ⟨fun w1 => ?_, fun w1 => ?_⟩⟩⟩
    · have w : (40 : Int) < x5.toInt := xlt w
      exfalso
      omega
    · have w : (ps_i s 903 4).toInt = 0 := xeq w
      refine k1 _ ⟨P, c, fr, q, gt_trans g (gt_one ?_), hP, fun k st hk => (hS k st hk).1, fun k st _ hk => (hS k st hk).2, hpf, ⟨l8, l9⟩, H, F⟩
      rw [pv_st_0]
      unfold pv_0
      rw [if_pos (by omega)]
    · have w : (ps_i s 903 4).toInt ≠ 0 := xne w
      have w1 : x5.toInt ≠ 40 := xne w1
      have hi : P.length < 40 := by omega
      refine fs_33 hp h5 hi ?_
      refine fs_66 (s0 := s) (C0 := (0, (P, c), fr, q, 0)) (c := c) hp hi rfl hth hF (by omega) ⟨L, H, gt_refl, cfr_refl⟩ (fun s1 q1 => ⟨fun _ => pl_nk_i (fun _ => ?_), fun w => absurd w (by decide)⟩) (fun s1 q1 => ⟨fun w => absurd rfl w, fun _ => ?_⟩)
      · obtain ⟨c', fr', q', ⟨L1, H1, g1, F1⟩, t1, G1, Z1⟩ := q1
        have hlen : (P ++ [c']).length = P.length + 1 := List.length_append
        have Fp : cfr (fun r => r = p) s1 (ps_ui s1 p 7 (x5 + 1)) := cfr_i cfr_refl rfl
        have np : ∀ r, r ≠ p → ¬ (fun r => r = p) r := fun r a b => a b
        have hlt := stc_lt hp hi
        have ep : ∀ f, ps_i s1 p f = ps_i s p f := fun f => (F1 p (fun z => by unfold CTS stc at z; omega)).1 f
        have h8 := H1.2.2.1
        refine fs_59_15 hp hth hF k1 k0 n (P := P ++ [c']) (c := c') (fr := fr') (q := q') (by rw [hlen]; exact xj1 h5 (by omega)) (by omega) (pv_L_cfr L1 Fp (np _ (by omega)) (np _ (by omega)) (np _ (by omega)) (np _ (by omega)) (np _ (by omega))) (cv_H_cfr H1 Fp (fun r a b z => by have z : r = p := z; omega)) (gt_trans g g1) (cfr_tr F (cfr_tr (cfr_mono F1 (CTS_P hp hi)) (cfr_mono Fp (fun r z => Or.inr (Or.inl z))))) (fun k st hk => ?_) ⟨?_, ?_, ?_⟩
        · by_cases hkl : k < P.length
          · rw [List.getElem?_append_left hkl] at hk
            obtain ⟨a1, a2, a3⟩ := hS k st hk
            have hk40 : k < 40 := by omega
            have n2 : ∀ r, stc p k ≤ r → r ≤ stc p k + 8 → ¬ CTS p P.length r := fun r a b z => by
              unfold CTS stc at *
              omega
            have n3 := stc_lt hp hk40
            exact ⟨a1, cpT_cfr (cpT_cfr a2 F1 (fun r a b => n2 r a (by omega))) Fp (fun r a b => np _ (by omega)), cpZ_cfr (cpZ_cfr a3 F1 (n2 _ (Nat.le_refl _) (by omega))) Fp (np _ (by omega))⟩
          · have hk' := (List.getElem?_eq_some_iff.mp hk).1
            have e : k = P.length := by omega
            rw [e] at hk ⊢
            rw [List.getElem?_append_right (Nat.le_refl _), Nat.sub_self, List.getElem?_cons_zero] at hk
            cases hk
            exact ⟨G1, cpT_cfr t1 Fp (fun r a b => np _ (by omega)), cpZ_cfr Z1 Fp (np _ (by omega))⟩
        · rw [ps_i_ui, if_pos ⟨rfl, rfl⟩, hlen]
          exact xj1 h5 (by omega)
        · rw [ps_i_ui, if_neg (by omega), ep]
          exact hpf.2.1
        · rw [ps_i_ui, if_neg (by omega), ep]
          exact hpf.2.2
      · obtain ⟨X, fr', pl, kk, g1, e1, e2, F1⟩ := q1
        exact k0 _ ⟨X, fr', pl, kk, gt_trans g g1, e1, e2, cfr_tr F (cfr_mono F1 (CTS_P hp hi))⟩
    · have w : (ps_i s 903 4).toInt ≠ 0 := xne w
      have w1 : x5.toInt = 40 := xeq w1
      refine fs_62g (K := 2) HK rfl (fun s1 q1 => pl_nk_i (fun _ => ?_))
      refine k0 _ ⟨(P, c), fr, _, tx_bk (tx_tok T N q), gt_trans g (gt_one ?_), q1.1, q1.2.1, cfr_tr F (cfr_mono q1.2.2 (fun r z => Or.inr (Or.inr (Or.inl z))))⟩
      rw [pv_st_0]
      unfold pv_0
      rw [if_neg (by omega), if_neg (fun z => by omega)]
theorem fs_31e {n r0 : Nat} {s : ps_S} {R : ps_S → Prop} (k : R (ps_ui (ps_ui (ps_ui s r0 7 0) r0 8 0) r0 9 0)) : pl_Cl n 31 [.ref r0] s (ps_rV R) := by
  cases n with
  | zero => exact pl_At_0
  | succ n =>
  show pl_At (n + 1) 31 0 [(0, .ref r0)] [] s (ps_rV R)
  exact pl_31_0 (pl_nk_i (fun _ => pl_nk_i (fun _ => pl_nk_i (fun _ => k))))
def pv_C0 : pv_C := (0, ([], ((0, 0, 0, 0), (0, 0), [], [])), [], 0, 0)
theorem fs_59 {n : Nat} {x2 : Int32} (hp : p = 50 ∨ p = 460) (hth : th = 2 ∨ th = 26) (hF : h.1.2.length ≤ 4) (H : cv_H s th h) (hx : x2.toInt = N) (hN : N ≤ 1600) (hT : ∀ k, k < N → (ps_a s 1 k &&& 255).toInt = T k) (hkw : ∀ (k : Nat) (w : List Nat), tx_keys[k]? = some w → ps_b s 904 k = tx_x w) (k1 : ∀ s', pw_ok T N h s s' p th pv_C0 → R 1 s') (k0 : ∀ s', pw_no T N h s s' p pv_C0 → R 0 s') : pl_Cl n 59 [.ref 902, .ref 1, .int x2, .ref th, .ref p] s (ps_rI R) := by
  cases n with
  | zero => exact pl_At_0
  | succ n =>
  show pl_At (n + 1) 59 0 [(0, .ref 902), (1, .ref 1), (2, .int x2), (3, .ref th), (4, .ref p)] [] s (ps_rI R)
  refine pl_59_0 (fs_31e ?_)
  have F1 : cfr (fun r => r = p) s (ps_ui (ps_ui (ps_ui s p 7 0) p 8 0) p 9 0) := cfr_i (cfr_i (cfr_i cfr_refl rfl) rfl) rfl
  have e7 : ps_i (ps_ui (ps_ui (ps_ui s p 7 0) p 8 0) p 9 0) p 7 = 0 := by rw [ps_i_ui, if_neg (by omega), ps_i_ui, if_neg (by omega), ps_i_ui, if_pos ⟨rfl, rfl⟩]
  have e8 : ps_i (ps_ui (ps_ui (ps_ui s p 7 0) p 8 0) p 9 0) p 8 = 0 := by rw [ps_i_ui, if_neg (by omega), ps_i_ui, if_pos ⟨rfl, rfl⟩]
  have e9 : ps_i (ps_ui (ps_ui (ps_ui s p 7 0) p 8 0) p 9 0) p 9 = 0 := by rw [ps_i_ui, if_pos ⟨rfl, rfl⟩]
  have np : ∀ r, r ≠ p → ¬ (fun r => r = p) r := fun r a b => a b
  have a1 := (F1 1 (np _ (by omega))).2.2.2.1
  have a4 := (F1 904 (np _ (by omega))).2.2.2.2
  have h8 := H.2.2.1
  have H1 : cv_H (ps_ui (ps_ui (ps_ui s p 7 0) p 8 0) p 9 0) th h := cv_H_cfr H F1 (fun r a b z => by have z : r = p := z; omega)
  generalize ps_ui (ps_ui (ps_ui s p 7 0) p 8 0) p 9 0 = s1 at F1 e7 e8 e9 a1 a4 H1 ⊢
  have C0 : cfr (fun q => q = 902 ∨ q = 903) s1 (cv_b0 s1 th x2) := cfr_i (cfr_i (cfr_r (cfr_i (cfr_i (cfr_i (cfr_i (cfr_i (cfr_r cfr_refl (Or.inl rfl)) (Or.inl rfl)) (Or.inl rfl)) (Or.inl rfl)) (Or.inl rfl)) (Or.inl rfl)) (Or.inr rfl)) (Or.inr rfl)) (Or.inr rfl)
  have hT0 : cv_T (cv_b0 s1 th x2) T N := ⟨rfl, hx, hN, fun k hk => by show (ps_a s1 1 k &&& 255).toInt = T k; rw [a1]; exact hT k hk, fun k w hk => by show ps_b s1 904 k = _; rw [a4]; exact hkw k w hk⟩
  refine fs_61 hx hT0 (fun s2 q2 => ?_)
  have F2 := cfr_fl q2.1
  have nb : ∀ r, r < 900 → ¬ (fun q => q = 902 ∨ q = 903) r := fun r a b => by
    have b : r = 902 ∨ r = 903 := b
    omega
  have nf : ∀ r, r < 900 → ¬ (fun q => q = 903) r := fun r a b => by
    have b : r = 903 := b
    omega
  have e2 : ∀ f, ps_i s2 902 f = ps_i (cv_b0 s1 th x2) 902 f := fun f => (F2 902 (by decide)).1 f
  have ep : ∀ f, ps_i s2 p f = ps_i s1 p f := fun f => by rw [(F2 p (nf _ (by omega))).1, (C0 p (nb _ (by omega))).1]
  have L2 : pv_L s2 th T N [] 0 := by
    refine ⟨by rw [q2.1.2.2.1]; rfl, cv_T_fl hT0 q2.1, Nat.zero_le _, q2.2, ⟨by rw [e2]; rfl, Nat.zero_le _, fun k w z => by cases z⟩, by rw [e2]; rfl, by rw [e2]; rfl, by rw [e2]; rfl, by rw [e2]; rfl⟩
  have H2 : cv_H s2 th h := cv_H_cfr (cv_H_cfr H1 C0 (fun r a b => nb _ (by omega))) F2 (fun r a b => nf _ (by omega))
  have FF : cfr (CTP p) s s2 := cfr_tr (cfr_mono F1 (fun r z => Or.inr (Or.inl z))) (cfr_tr (cfr_mono C0 (fun r z => by
    have z : r = 902 ∨ r = 903 := z
    unfold CTP
    omega)) (cfr_mono F2 (fun r z => Or.inr (Or.inr (Or.inr (Or.inl z))))))
  exact fs_59_15 hp hth hF k1 k0 n (P := []) rfl (Nat.zero_le _) L2 H2 gt_refl FF (fun k st hk => by cases hk) ⟨by rw [ep, e7]; rfl, by rw [ep, e8]; rfl, by rw [ep, e9]⟩
end PVB

