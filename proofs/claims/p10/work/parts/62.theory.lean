set_option maxRecDepth 100000
/-! theory() of the reference: what it leaves of the pool behind the axioms -/
def mt_fs (b : Nat) (s s' : ps_S) : Prop := mt_fr b s s' ∧ ∀ i, 22468 ≤ i → ps_a s' 1134 i = ps_a s 1134 i
def mt_fo (b : Nat) (s s' : ps_S) : Prop := mt_fr b s s' ∧ ∀ i, 22468 ≤ i → i ≠ 25748 → i ≠ 25789 → ps_a s' 1134 i = ps_a s 1134 i
def mt_okx (b : Nat) (T : Nat → Nat) (N : Nat) (s s' : ps_S) (v : Int32) : Prop := mt_ok b T N s s' v ∧ ∀ i, 22468 ≤ i → i ≠ 25748 → i ≠ 25789 → ps_a s' 1134 i = ps_a s 1134 i
def mt_badx (b : Nat) (T : Nat → Nat) (N : Nat) (s s' : ps_S) (v : Int32) : Prop := mt_bad b T N s s' v ∧ ∀ i, 22468 ≤ i → ps_a s' 1134 i = ps_a s 1134 i
theorem mt_fs_bk {rb b : Nat} {s s1 s2 : ps_S} (hrb : rb < 2) (hb : b < 2) (hne : b ≠ rb) (F : mt_fs b s s1) (B : mv_bk rb s1 s2) : mt_fs b s s2 := ⟨mt_fr_bk hrb hb hne F.1 B, fun i hi => (B.2.2.2.2.2 i (by omega)).trans (F.2 i hi)⟩

theorem fm_201x_65b {b : Nat} {s0 : ps_S} {T : Nat → Nat} {N : Nat} {R : Int32 → ps_S → Prop} (hb : b < 2) (k1 : ∀ v s', mt_okx b T N s0 s' v → R v s') (k0 : ∀ v s', mt_badx b T N s0 s' v → R v s') {n : Nat} {s : ps_S} {h : tx_H} {pl kk : Nat} (g : gt_go (tx_ln T N) (0, (([], []), []), 0, 0) (4, h, pl, kk)) (hk : kk ≠ 0) (h5 : (ps_i s 1131 5).toInt = kk) (h6 : (ps_i s 1131 6).toInt = pl) (h21 : (ps_i s 1131 21).toInt = b) (F : mt_fs b s0 s) : pl_At n 201 65 [(0, .ref 1131)] [] s (ps_rI R) := by
  cases n with
  | zero => exact pl_At_0
  | succ n =>
  refine pl_201_65 ?_
  exact fm_192 (fun z => by omega) (fun _ => ⟨fun z => absurd rfl z, fun _ => k0 _ _ ⟨⟨h, pl, kk, g, rfl, hk, h5, h6, h21, F.1⟩, F.2⟩⟩)
theorem fm_201x_44b {b : Nat} {s0 : ps_S} {T : Nat → Nat} {N : Nat} {R : Int32 → ps_S → Prop} (hb : b < 2) (k1 : ∀ v s', mt_okx b T N s0 s' v → R v s') (k0 : ∀ v s', mt_badx b T N s0 s' v → R v s') {n : Nat} {s : ps_S} {h : tx_H} {pl kk : Nat} (g : gt_go (tx_ln T N) (0, (([], []), []), 0, 0) (4, h, pl, kk)) (hk : kk ≠ 0) (h5 : (ps_i s 1131 5).toInt = kk) (h6 : (ps_i s 1131 6).toInt = pl) (h21 : (ps_i s 1131 21).toInt = b) (F : mt_fs b s0 s) : pl_At n 201 44 [(0, .ref 1131)] [] s (ps_rI R) := by
  cases n with
  | zero => exact pl_At_0
  | succ n =>
  refine pl_201_44 ?_
  exact fm_192 (fun z => by omega) (fun _ => ⟨fun _ => fm_201x_65b hb k1 k0 g hk h5 h6 h21 F, fun z => absurd rfl z⟩)
theorem fm_201x_88 {b : Nat} {s0 : ps_S} {T : Nat → Nat} {N : Nat} {R : Int32 → ps_S → Prop} (hb : b < 2) (k1 : ∀ v s', mt_okx b T N s0 s' v → R v s') (k0 : ∀ v s', mt_badx b T N s0 s' v → R v s') {h : tx_H} {p : Nat} (g : gt_go (tx_ln T N) (0, (([], []), []), 0, 0) (3, h, p, 0)) : ∀ (n : Nat) {s : ps_S} {x1 : Int32} {i : Nat}, x1.toInt = i → i ≤ 3 → mv_H s (1 - b) h → (ps_i s 1131 21).toInt = (1 - b : Nat) → mv_G s → mt_fo b s0 s → ((ps_i s 1131 47).toInt = 0 ∧ (ps_i s 1131 48).toInt = -1 ∧ (ps_i s 1131 49).toInt = -1 ∧ (ps_i s 1131 54).toInt = 0 ∧ ps_a s 1134 25748 = 0 ∧ ps_a s 1134 25789 = 0 ∧ ∀ j, j < i → ps_a s 1176 j = -1) → pl_At n 201 88 [(0, .ref 1131), (1, .int x1)] [] s (ps_rI R)
  | 0, _, _, _, _, _, _, _, _, _, _ => pl_At_0
  | n + 1, s, x1, i, hx, hi, H, h21, hG, F, ⟨c1, c2, c3, c4, c5, c6, c7⟩ => by
    refine pl_201_88 ?_
    refine ⟨fun h90 => ?_, fun h90 => ?_⟩
    · have h90 : (3 : Int) ≤ x1.toInt := xle h90
      intro b114
      obtain ⟨b114, c114⟩ := pl_in b114
      rw [xtn h21]
      exact k1 _ _ ⟨⟨h, p, g, H.2.1, H, h21, hG, F.1, c1, c2, c3, c4, c5, c6, fun j hj => c7 j (by omega)⟩, F.2⟩
    · have h90 : x1.toInt < (3 : Int) := xlt h90
      intro b99
      obtain ⟨b99, c99⟩ := pl_in b99
      rw [xtn hx]
      have K : kq [1176] [] s (ps_ua s 1176 i (-1)) := kqa kq_refl rfl
      refine fm_201x_88 hb k1 k0 g n (xj1 hx (by omega)) (by omega) (mv_H_kq H K (by decide)) h21 hG ⟨⟨kqt F.1.1 K (by decide) (by decide), fun hb' z => mv_H_kq (F.1.2.1 hb' z) K (by decide), F.1.2.2⟩, fun i a b c => by rw [kq_a K 1134 (by decide)]; exact F.2 i a b c⟩ ⟨c1, c2, c3, c4, c5, c6, fun j hj => ?_⟩
      rw [ps_a_ua]
      by_cases e : j = i
      · rw [if_pos ⟨rfl, e⟩]
      · rw [if_neg (fun z => e z.2)]
        exact c7 j (by omega)
theorem fm_201x_65 {b : Nat} {s0 : ps_S} {T : Nat → Nat} {N : Nat} {R : Int32 → ps_S → Prop} (hb : b < 2) (k1 : ∀ v s', mt_okx b T N s0 s' v → R v s') (k0 : ∀ v s', mt_badx b T N s0 s' v → R v s') {n : Nat} {s : ps_S} {h : tx_H} {p : Nat} (g : gt_go (tx_ln T N) (0, (([], []), []), 0, 0) (3, h, p, 0)) (L : mv_L s (1 - b) T N h p) (F : mt_fs b s0 s) : pl_At n 201 65 [(0, .ref 1131)] [] s (ps_rI R) := by
  cases n with
  | zero => exact pl_At_0
  | succ n =>
  obtain ⟨hrb, h22, hT, hH, hp, hK, h23, hG⟩ := id L
  refine pl_201_65 ?_
  refine fm_192 (fun _ => ⟨fun _ => ?_, fun z => absurd z (by decide)⟩) (fun z => absurd hG.1 z)
  refine fm_202 ?_
  have K1 : kq [] [21, 47, 48, 49, 54] s (ps_ui (ps_ui (ps_ui (ps_ui (ps_ui s 1131 21 (ps_i s 1131 22)) 1131 47 0) 1131 48 (-1)) 1131 49 (-1)) 1131 54 0) := kqi (kqi (kqi (kqi (kqi kq_refl rfl) rfl) rfl) rfl) rfl
  generalize hq : (ps_ui (ps_ui (ps_ui (ps_ui (ps_ui s 1131 21 (ps_i s 1131 22)) 1131 47 0) 1131 48 (-1)) 1131 49 (-1)) 1131 54 0) = s1 at K1 ⊢
  have K2 : kq [1134] [] s1 (ps_ua (ps_ua s1 1134 25748 0) 1134 25789 0) := kqa (kqa kq_refl rfl) rfl
  have P2 : ∀ i, i < 25748 → ps_a (ps_ua (ps_ua s1 1134 25748 0) 1134 25789 0) 1134 i = ps_a s1 1134 i := fun i hi => by rw [ps_a_ua, if_neg (by omega), ps_a_ua, if_neg (by omega)]
  have HH : ∀ (c : Nat) (h' : tx_H), c < 2 → mv_H s1 c h' → mv_H (ps_ua (ps_ua s1 1134 25748 0) 1134 25789 0) c h' := fun c h' hc H => by
    obtain ⟨f1, f2, f3, f4⟩ := H
    refine ⟨mv_E_kq f1 K2 (by decide), by rw [kq_a K2 1137 (by decide)]; exact f2, f3, fun k w l hk => ?_⟩
    obtain ⟨y1, y2, y3, y4, y5⟩ := f4 k w l hk
    have hl := (List.getElem?_eq_some_iff.mp hk).1
    refine ⟨y1, y2, by rw [P2 _ (by omega)]; exact y3, y4, fun q c hq => ?_⟩
    have hq2 := (List.getElem?_eq_some_iff.mp hq).1
    rw [P2 _ (by omega)]
    exact y5 q c hq
  refine fm_201x_88 hb k1 k0 g n (i := 0) rfl (Nat.zero_le _) (HH _ _ hrb (mv_H_kq hH K1 (by decide))) (by rw [kq_i K2 21 (by decide), ← hq]; exact h22) (mv_G_kq (mv_G_kq hG K1 (by decide) (by decide)) K2 (by decide) (by decide)) ⟨⟨kqt (kqt F.1.1 K1 (by decide) (by decide)) K2 (by decide) (by decide), fun hb' z => HH b hb' hb (mv_H_kq (F.1.2.1 hb' z) K1 (by decide)), by rw [kq_i K2 3 (by decide), kq_i K1 3 (by decide)]; exact F.1.2.2⟩, fun i a b c => by rw [ps_a_ua, if_neg (by omega), ps_a_ua, if_neg (by omega), kq_a K1 1134 (by decide)]; exact F.2 i a⟩ ⟨?_, ?_, ?_, ?_, ?_, ?_, fun j hj => absurd hj (Nat.not_lt_zero _)⟩
  · rw [kq_i K2 47 (by decide), ← hq]; rfl
  · rw [kq_i K2 48 (by decide), ← hq]; rfl
  · rw [kq_i K2 49 (by decide), ← hq]; rfl
  · rw [kq_i K2 54 (by decide), ← hq]; rfl
  · rw [ps_a_ua, if_neg (by decide), ps_a_ua, if_pos ⟨rfl, rfl⟩]
  · rw [ps_a_ua, if_pos ⟨rfl, rfl⟩]
theorem fm_201x_44 {b : Nat} {s0 : ps_S} {T : Nat → Nat} {N : Nat} {R : Int32 → ps_S → Prop} (hb : b < 2) (k1 : ∀ v s', mt_okx b T N s0 s' v → R v s') (k0 : ∀ v s', mt_badx b T N s0 s' v → R v s') : ∀ (n : Nat) {s : ps_S} {h : tx_H} {p : Nat}, gt_go (tx_ln T N) (0, (([], []), []), 0, 0) (0, h, p, 0) → mv_L s (1 - b) T N h p → (ps_i s 1131 21).toInt = b → mt_fs b s0 s → pl_At n 201 44 [(0, .ref 1131)] [] s (ps_rI R)
  | 0, _, _, _, _, _, _, _ => pl_At_0
  | n + 1, s, h, p, g, L, h21, F => by
    obtain ⟨hrb, h22, hT, hH, hp, hK, h23, hG⟩ := id L
    have h9 := hK.1
    have hne : b ≠ 1 - b := by omega
    refine pl_201_44 ?_
    refine fm_192 (fun q45 => ?_) (fun q45 => ?_)
    · refine ⟨fun h48 => ?_, fun h48 => ?_⟩
      · exact absurd h48 (by decide)
      · refine ⟨fun h55 => ?_, fun h55 => ?_⟩
        · have h55 : (ps_i s 1131 9).toInt = (0 : Int) := xeq h55
          exact fm_201x_65 hb k1 k0 (gt_trans g (gt_one (tx_l_end (by omega)))) L F
        · have h55 : (ps_i s 1131 9).toInt ≠ (0 : Int) := xne h55
          refine fm_204u L (by omega) (fun s59 q59 => ?_)
          rcases q59 with ⟨h2, p2, e, L2, B⟩ | ⟨h2, pl, kk, e, e1, e2, e3, B⟩
          · exact fm_201x_44 hb k1 k0 n (gt_trans g (gt_one e)) L2 (by rw [kq_i B.1 21 (by decide)]; exact h21) (mt_fs_bk hrb hb hne F B)
          · exact fm_201x_44b hb k1 k0 (gt_trans g (gt_one e)) e1 e2 e3 (by rw [kq_i B.1 21 (by decide)]; exact h21) (mt_fs_bk hrb hb hne F B)
    · refine ⟨fun h48 => ?_, fun h48 => ?_⟩
      · exact absurd hG.1 q45
      · exact absurd h48 (by decide)
theorem fm_201x {n b : Nat} {s : ps_S} {T : Nat → Nat} {N : Nat} {R : Int32 → ps_S → Prop} (hb : b < 2) (h21 : (ps_i s 1131 21).toInt = b) (h3 : (ps_i s 1131 3).toInt = N) (hN : N ≤ 1600) (hT : ∀ k, k < N → (ps_a s 1132 k &&& 255).toInt = T k) (k1 : ∀ v s', mt_okx b T N s s' v → R v s') (k0 : ∀ v s', mt_badx b T N s s' v → R v s') : pl_Cl n 201 [.ref 1131] s (ps_rI R) := by
  cases n with
  | zero => exact pl_At_0
  | succ n =>
  show pl_At (n + 1) 201 0 [(0, .ref 1131)] [] s (ps_rI R)
  refine pl_201_0 ?_
  refine fm_198 h21 h3 hN hT (fun s1 q1 => ?_)
  intro b23
  obtain ⟨b23, c23⟩ := pl_in b23
  intro b33
  obtain ⟨b33, c33⟩ := pl_in b33
  intro b43
  obtain ⟨b43, c43⟩ := pl_in b43
  have c1 : (1 : Int32).toInt = 1 := by decide
  obtain ⟨K1, t1, t2, t3, t4, t5, t6⟩ := q1
  have j21 : (ps_i s1 1131 21).toInt = b := by rw [kq_i K1 21 (by decide)]; exact h21
  have e22 : ((1 : Int32) - (ps_i s1 1131 21)).toInt = (1 - b : Nat) := by rw [xIs (by omega) (by omega)]; omega
  show pl_At _ 201 44 [(0, .ref 1131)] [] (ps_ua (ps_ua (ps_ua (ps_ui s1 1131 22 ((1 : Int32) - (ps_i s1 1131 21))) 1135 (Int32.toNatClampNeg ((1 : Int32) - (ps_i s1 1131 21))) 0) 1136 (Int32.toNatClampNeg ((1 : Int32) - (ps_i s1 1131 21))) 0) 1137 (Int32.toNatClampNeg ((1 : Int32) - (ps_i s1 1131 21))) 0) _
  rw [xtn e22]
  generalize ((1 : Int32) - (ps_i s1 1131 21)) = v22 at e22 ⊢
  have K2 : kq [] [22] s1 (ps_ui s1 1131 22 v22) := kqi kq_refl rfl
  have B2 : mv_bk (1 - b) (ps_ui s1 1131 22 v22) (ps_ua (ps_ua (ps_ua (ps_ui s1 1131 22 v22) 1135 (1 - b) 0) 1136 (1 - b) 0) 1137 (1 - b) 0) := mv_bk_tr (mv_bk_tr (mv_bk_a (Or.inl ⟨rfl, rfl⟩)) (mv_bk_a (Or.inr (Or.inl ⟨rfl, rfl⟩)))) (mv_bk_a (Or.inr (Or.inr (Or.inl ⟨rfl, rfl⟩))))
  have F1 : mt_fs b s (ps_ui s1 1131 22 v22) := ⟨⟨kqt (kqt kq_refl K1 (by decide) (by decide)) K2 (by decide) (by decide), fun hb' z => mv_H_kq (mv_H_kq z K1 (by decide)) K2 (by decide), t6⟩, fun i _ => by rw [kq_a K2 1134 (by decide), kq_a K1 1134 (by decide)]⟩
  have K3 : kq [1135, 1136, 1137] [] (ps_ui s1 1131 22 v22) (ps_ua (ps_ua (ps_ua (ps_ui s1 1131 22 v22) 1135 (1 - b) 0) 1136 (1 - b) 0) 1137 (1 - b) 0) := kqa (kqa (kqa kq_refl rfl) rfl) rfl
  have K4 := kqt (A := [1135, 1136, 1137]) (F := [22]) (kqt kq_refl K2 (by decide) (by decide)) K3 (by decide) (by decide)
  exact fm_201x_44 hb k1 k0 n gt_refl ⟨by omega, e22, mv_T_kq t1 K4 (by decide) (by decide), mv_H_nil, Nat.zero_le _, mv_K_kq t2 K4 (by decide), t4, mv_G_kq t3 K4 (by decide) (by decide)⟩ j21 (mt_fs_bk (by omega) hb (by omega) F1 B2)

