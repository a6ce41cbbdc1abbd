set_option maxRecDepth 100000
/-! prove() on both sides -/
-- ProofBench.prove()I
theorem pl_153_0 {n : Nat} {s : ps_S} {Q : Option Value → ps_S → Prop} (h :
  pl_Cl n 59 [.ref 902, .ref 1, .int (ps_i s 0 1), .ref (ps_r s 0 2), .ref (ps_r s 0 5)] s (ps_rI (fun v1 s1 =>
    (v1 ≠ 0 →
      pl_Cl n 34 [.ref (ps_r (ps_ur (ps_ur (ps_ui s1 0 1 0) 0 4 (ps_r (ps_ui s1 0 1 0) 0 5)) 0 5 (ps_r (ps_ui s1 0 1 0) 0 4)) 0 4), .ref (ps_r (ps_ur (ps_ur (ps_ui s1 0 1 0) 0 4 (ps_r (ps_ui s1 0 1 0) 0 5)) 0 5 (ps_r (ps_ui s1 0 1 0) 0 4)) 0 2), .ref 870] (ps_ur (ps_ur (ps_ui s1 0 1 0) 0 4 (ps_r (ps_ui s1 0 1 0) 0 5)) 0 5 (ps_r (ps_ui s1 0 1 0) 0 4)) (ps_rV (fun s2 =>
        pl_nk (ps_is (ps_r s2 0 4) 2) (Q (some (.int (ps_i s2 (ps_r s2 0 4) 8))) s2)))) ∧
    (v1 = 0 →
      Q (some (.int (-1))) (ps_ui s1 0 1 0))))) : pl_At (n + 1) 153 0 [(0, .ref 0)] [] s Q :=
  pl_wp_at (stops := []) (f := 42) h rfl

/-- what the class's prove() comes to -/
def cw_P (T : Nat → Nat) (N : Nat) (h : tx_H) (Θ : List tq_H) (s s' : ps_S) (p p' : Nat) (v : Int32) : Prop := (∃ (L : List tp_P) (c : tp_P) (fr : List (List Nat)) (q : Nat) (D : List tq_R) (cc : Nat), gt_go (pv_st T N h) pv_C0 (3, (L, c), fr, q, 0) ∧ (∀ (k : Nat) (st : tp_P), L[k]? = some st → tp_G h.1 h.2.length st) ∧ tq_run h Θ L [] = (D, cc) ∧ tq_GD h.1 D ∧ cpP s' p' D cc ∧ v.toInt = D.length ∧ ((ps_i s' 902 9).toInt = 0 ∧ (ps_i s' 902 10).toInt = -1) ∧ (ps_r s' 0 4 = p' ∧ ps_r s' 0 5 = p) ∧ cfr (fun q => q = 0 ∨ CTP p' q ∨ CPF p' q) s s') ∨ ∃ (X : List tp_P × tp_P) (fr : List (List Nat)) (pl k : Nat), gt_go (pv_st T N h) pv_C0 (4, X, fr, pl, k) ∧ v.toInt = -1 ∧ ((ps_i s' 902 9).toInt = k ∧ (ps_i s' 902 10).toInt = pl) ∧ (ps_r s' 0 4 = p ∧ ps_r s' 0 5 = p') ∧ cfr (fun q => q = 0 ∨ CTP p' q) s s'
theorem fs_153 {n p p' th N : Nat} {T : Nat → Nat} {h : tx_H} {Θ : List tq_H} {s : ps_S} {R : Int32 → ps_S → Prop} (hp : p' = 50 ∨ p' = 460) (hth : th = 2 ∨ th = 26) (r2 : ps_r s 0 2 = th) (r4 : ps_r s 0 4 = p) (r5 : ps_r s 0 5 = p') (hT : tq_GT h.1 Θ) (hwt : WFt h) (H : cv_H s th h) (hS : cSh s 870 Θ) (W12 : cv_W s (p' + 12) []) (hx : (ps_i s 0 1).toInt = N) (hN : N ≤ 1600) (hTT : ∀ k, k < N → (ps_a s 1 k &&& 255).toInt = T k) (hkw : ∀ (k : Nat) (w : List Nat), tx_keys[k]? = some w → ps_b s 904 k = tx_x w) (k : ∀ (v : Int32) (s' : ps_S), cw_P T N h Θ s s' p p' v → R v s') : pl_Cl n 153 [.ref 0] s (ps_rI R) := by
  cases n with
  | zero => exact pl_At_0
  | succ n =>
  show pl_At (n + 1) 153 0 [(0, .ref 0)] [] s (ps_rI R)
  have hF : h.1.2.length ≤ 4 := H.1.2.2.2.1
  refine pl_153_0 ?_
  rw [r2, r5]
  refine fs_59 hp hth hF H hx hN hTT hkw (fun s1 q1 => ⟨fun _ => ?_, fun w => absurd w (by decide)⟩) (fun s1 q1 => ⟨fun w => absurd rfl w, fun _ => ?_⟩)
  · obtain ⟨L, c, fr, q, g, hL, hG, cW, ⟨e7, e8, e9⟩, hf, H1, F1⟩ := q1
    have n0 : ∀ q, q < 50 → ¬ CTP p' q := fun q a z => by unfold CTP at z; omega
    have e4 : ps_r s1 0 4 = p := by rw [(F1 0 (n0 _ (by decide))).2.2.1]; exact r4
    have e5 : ps_r s1 0 5 = p' := by rw [(F1 0 (n0 _ (by decide))).2.2.1]; exact r5
    have e2 : ps_r s1 0 2 = th := by rw [(F1 0 (n0 _ (by decide))).2.2.1]; exact r2
    rw [show ps_r (ps_ui s1 0 1 0) 0 5 = p' from e5, show ps_r (ps_ui s1 0 1 0) 0 4 = p from e4]
    have F0 : cfr (fun q => q = 0) s1 (ps_ur (ps_ur (ps_ui s1 0 1 0) 0 4 p') 0 5 p) := cfr_r (cfr_r (cfr_i cfr_refl rfl) rfl) rfl
    have x4 : ps_r (ps_ur (ps_ur (ps_ui s1 0 1 0) 0 4 p') 0 5 p) 0 4 = p' := by rw [ps_r_ur, if_neg (by omega), ps_r_ur, if_pos ⟨rfl, rfl⟩]
    have x5 : ps_r (ps_ur (ps_ur (ps_ui s1 0 1 0) 0 4 p') 0 5 p) 0 5 = p := by rw [ps_r_ur, if_pos ⟨rfl, rfl⟩]
    have x2 : ps_r (ps_ur (ps_ur (ps_ui s1 0 1 0) 0 4 p') 0 5 p) 0 2 = th := by
      rw [ps_r_ur, if_neg (by omega), ps_r_ur, if_neg (by omega)]
      exact e2
    rw [x4, x2]
    generalize ps_ur (ps_ur (ps_ui s1 0 1 0) 0 4 p') 0 5 p = s2 at F0 x4 x5 x2 ⊢
    have m0 : ∀ q, 0 < q → ¬ (fun q => q = 0) q := fun q a z => by
      have z : q = 0 := z
      omega
    have h8 := H.2.2.1
    have hS1 : cSh s1 870 Θ := cSh_cfr hS F1 (fun r a b z => by unfold CTP at z; omega)
    have W1 : cv_W s1 (p' + 12) [] := cv_W_cfr W12 F1 (fun z => by unfold CTP at z; omega) (fun z => by unfold CTP at z; omega)
    have cW2 : cpW s2 p' L 0 := fun k st a hk => by
      obtain ⟨y1, y2, y3, y4, y5⟩ := cW k st a hk
      have hk40 := (List.getElem?_eq_some_iff.mp hk).1
      have hlt := stc_lt hp (show k < 40 by omega)
      have ef := (F0 (stc p' k) (m0 _ (by omega))).1
      exact ⟨cpT_cfr y1 F0 (fun q a b => m0 _ (by omega)), by rw [ef]; exact y2, by rw [ef]; exact y3, by rw [ef]; exact y4, by rw [ef]; exact y5⟩
    have ep := (F0 p' (m0 _ (by omega))).1
    refine fs_34 hp hth hT hwt hL hG (cv_H_cfr H1 F0 (fun q a b => m0 _ (by omega))) (cSh_cfr hS1 F0 (fun q a b => m0 _ (by omega))) (cv_W_cfr W1 F0 (m0 _ (by omega)) (m0 _ (by omega))) cW2 (by rw [ep]; exact e7) (by rw [ep]; exact e8) (by rw [ep]; exact e9) (fun s3 q3 => pl_nk_i (fun _ => ?_))
    obtain ⟨D, cc, hrun, hGD, hP, F3⟩ := q3
    have nC : ∀ q, q < 50 ∨ 900 < q → ¬ CPF p' q := fun q a z => by unfold CPF at z; omega
    have z4 : ps_r s3 0 4 = p' := by rw [(F3 0 (nC _ (by omega))).2.2.1]; exact x4
    have z5 : ps_r s3 0 5 = p := by rw [(F3 0 (nC _ (by omega))).2.2.1]; exact x5
    rw [z4]
    refine k _ _ (Or.inl ⟨L, c, fr, q, D, cc, g, hG, hrun, hGD, hP, hP.2.1, ⟨?_, ?_⟩, ⟨z4, z5⟩, ?_⟩)
    · rw [(F3 902 (nC _ (by omega))).1, (F0 902 (m0 _ (by omega))).1]
      exact hf.1
    · rw [(F3 902 (nC _ (by omega))).1, (F0 902 (m0 _ (by omega))).1]
      exact hf.2
    · exact cfr_tr (cfr_mono F1 (fun q z => Or.inr (Or.inl z))) (cfr_tr (cfr_mono F0 (fun q z => Or.inl z)) (cfr_mono F3 (fun q z => Or.inr (Or.inr z))))
  · obtain ⟨X, fr, pl, kk, g, e1, e2, F1⟩ := q1
    have n0 : ∀ q, q < 50 → ¬ CTP p' q := fun q a z => by unfold CTP at z; omega
    refine k _ _ (Or.inr ⟨X, fr, pl, kk, g, by decide, ⟨e1, e2⟩, ⟨?_, ?_⟩, cfr_i (cfr_mono F1 (fun q z => Or.inr z)) (Or.inl rfl)⟩)
    · show ps_r s1 0 4 = p
      rw [(F1 0 (n0 _ (by decide))).2.2.1]
      exact r4
    · show ps_r s1 0 5 = p'
      rw [(F1 0 (n0 _ (by decide))).2.2.1]
      exact r5
/-! the reference -/
def KRW (s0 s : ps_S) : Prop := kq [1133, 1134, 1143, 1144, 1145, 1146, 1147, 1148, 1152, 1153, 1154, 1155, 1156] [3, 4, 5, 6, 7, 8, 9, 10, 11, 22, 23, 29, 30, 31, 32, 42] s0 s ∧ ∀ q, (q < 22468 ∨ 25748 ≤ q) → ps_a s 1134 q = ps_a s0 1134 q
def KRM (s0 s : ps_S) : Prop := kq [1133, 1134, 1143, 1144, 1145, 1146, 1147, 1148, 1149, 1150, 1151, 1152, 1153, 1154, 1155, 1156, 1157, 1158, 1159, 1160] [3, 4, 5, 6, 7, 8, 9, 10, 11, 22, 23, 29, 30, 31, 32, 34, 42, 47, 48, 49, 50, 51] s0 s ∧ ∀ q, ((21320 ≤ q ∧ q < 22468) ∨ 25748 ≤ q) → ps_a s 1134 q = ps_a s0 1134 q
def mw_P (T : Nat → Nat) (N : Nat) (h : tx_H) (Θ : List tq_H) (s s' : ps_S) (v : Int32) : Prop := (∃ (L : List tp_P) (c : tp_P) (fr : List (List Nat)) (q : Nat) (D : List tq_R) (cc : Nat), gt_go (pv_st T N h) pv_C0 (3, (L, c), fr, q, 0) ∧ tq_run h Θ L [] = (D, cc) ∧ tq_GD h.1 D ∧ mpP s' D cc ∧ v.toInt = D.length ∧ mv_G s' ∧ KRM s s') ∨ ∃ (X : List tp_P × tp_P) (fr : List (List Nat)) (pl k : Nat), gt_go (pv_st T N h) pv_C0 (4, X, fr, pl, k) ∧ v.toInt = -1 ∧ ((ps_i s' 1131 5).toInt = k ∧ (ps_i s' 1131 6).toInt = pl) ∧ KRW s s'
theorem rkT_KR {s s' : ps_S} {i j : Nat} {st : tp_P} (H : rkT s j st) (hj : j < 40) (hi : i < 40) (hji : j ≠ i) (K : KRd i s s') : rkT s' j st := by
  obtain ⟨t1, t2, t3, t4, t5, t6, t7, t8⟩ := H
  obtain ⟨-, k2, k3⟩ := K
  obtain ⟨a1, a2, a3, a4, a5⟩ := k3 j hji
  refine ⟨by rw [a1]; exact t1, by rw [a2]; exact t2, by rw [a3]; exact t3, by rw [a4]; exact t4, by rw [a2]; exact t5, by rw [a5]; exact t6, fun z => mv_W_V (t7 z) (fun q a b => k2 q (by omega) (by omega)), fun z => mv_W_V (t8 z) (fun q a b => k2 q (by omega) (by omega))⟩
section T240P
variable {T : Nat → Nat} {N : Nat} {h : tx_H} {Θ : List tq_H} {s0 : ps_S} {b : Nat} {R : Int32 → ps_S → Prop}
theorem fm_240_30b {n : Nat} {s : ps_S} (hb : (ps_i s 1131 5).toInt ≠ 0) (k : R (-1) s) : pl_At n 240 30 [(0, .ref 1131)] [] s (ps_rI R) := by
  cases n with
  | zero => exact pl_At_0
  | succ n =>
  exact pl_240_30 (fm_192 (fun z => absurd z hb) (fun _ => ⟨fun w => absurd rfl w, fun _ => k⟩))
theorem fm_240_30 {n : Nat} {s : ps_S} {L : List tp_P} {c : tp_P} {fr : List (List Nat)} {q : Nat} (hT : tq_GT h.1 Θ) (hwt : WFt h) (h21 : (ps_i s0 1131 21).toInt = b) (hS : mSh s0 Θ) (LL : rv_L s b T N h fr q) (hL : L.length ≤ 40) (hG : ∀ (k : Nat) (st : tp_P), L[k]? = some st → tp_G h.1 h.2.length st) (g : gt_go (pv_st T N h) pv_C0 (3, (L, c), fr, q, 0)) (hr : ∀ (k : Nat) (st : tp_P), L[k]? = some st → rkT s k st) (e42 : (ps_i s 1131 42).toInt = L.length) (K : KRW s0 s) (k : ∀ (v : Int32) (s' : ps_S), mw_P T N h Θ s0 s' v → R v s') : pl_At n 240 30 [(0, .ref 1131)] [] s (ps_rI R) := by
  cases n with
  | zero => exact pl_At_0
  | succ n =>
  obtain ⟨⟨l1, l2, l3, l4, l5⟩, l6, l7, l8⟩ := LL
  obtain ⟨K1, K2⟩ := K
  refine pl_240_30 (fm_192 (fun _ => ⟨fun _ => ?_, fun w => absurd w (by decide)⟩) (fun z => absurd l8.1 z))
  have Kq : kq [] [47, 48, 49] s (ps_ui (ps_ui (ps_ui s 1131 47 0) 1131 48 (-1)) 1131 49 (-1)) := kqi (kqi (kqi kq_refl (by decide)) (by decide)) (by decide)
  have x47 : ps_i (ps_ui (ps_ui (ps_ui s 1131 47 0) 1131 48 (-1)) 1131 49 (-1)) 1131 47 = 0 := by rw [ps_i_ui, if_neg (by omega), ps_i_ui, if_neg (by omega), ps_i_ui, if_pos ⟨rfl, rfl⟩]
  have x48 : ps_i (ps_ui (ps_ui (ps_ui s 1131 47 0) 1131 48 (-1)) 1131 49 (-1)) 1131 48 = -1 := by rw [ps_i_ui, if_neg (by omega), ps_i_ui, if_pos ⟨rfl, rfl⟩]
  have x49 : ps_i (ps_ui (ps_ui (ps_ui s 1131 47 0) 1131 48 (-1)) 1131 49 (-1)) 1131 49 = -1 := by rw [ps_i_ui, if_pos ⟨rfl, rfl⟩]
  generalize ps_ui (ps_ui (ps_ui s 1131 47 0) 1131 48 (-1)) 1131 49 (-1) = s1 at Kq x47 x48 x49 ⊢
  have hS1 : mSh s Θ := by
    obtain ⟨y1, y2, y3⟩ := hS
    refine ⟨by rw [kq_i K1 54 (by decide)]; exact y1, y2, fun k q hk => ?_⟩
    obtain ⟨e1, e2, e3⟩ := y3 k q hk
    have hkl := (List.getElem?_eq_some_iff.mp hk).1
    exact ⟨mv_W_V e1 (fun r a b => K2 r (Or.inl (by omega))), by rw [kq_a K1 1161 (by decide)]; exact e2, by rw [kq_a K1 1162 (by decide)]; exact e3⟩
  refine fm_240_54 (b := b) (h := h) (Θ := Θ) (L := L) (s0 := s1) l1 hT hwt hL hG (fun s2 D cc hrun hGD hP KF2 => ?_) n (D := []) (Nat.zero_le _) rfl (fun k R hk => by cases hk) ?_ (mv_H_kq l3 Kq (by decide)) (mSh_q hS1 Kq (by decide)) ⟨Nat.zero_le _, fun k R hk => by cases hk⟩ (fun k st _ hk => rkT_q (hr k st hk) Kq) ?_ (by rw [x47]; rfl) x48 x49 ⟨kq_refl, fun _ _ => rfl⟩
  · obtain ⟨f1, f2⟩ := KF2
    refine k _ _ (Or.inl ⟨L, c, fr, q, D, cc, g, hrun, hGD, hP, hP.2.1, mv_G_kq (mv_G_kq l8 Kq (by decide) (by decide)) f1 (by decide) (by decide), kqt (kqt (kqt kq_refl K1 (by decide) (by decide)) Kq (by decide) (by decide)) f1 (by decide) (by decide), fun r hr => ?_⟩)
    rw [f2 r (by omega), kq_a Kq 1134 (by decide)]
    exact K2 r (by omega)
  · rw [kq_i Kq 21 (by decide), kq_i K1 21 (by decide)]
    exact h21
  · rw [kq_i Kq 42 (by decide)]
    exact e42
theorem fm_240_9 (hT : tq_GT h.1 Θ) (hwt : WFt h) (h21 : (ps_i s0 1131 21).toInt = b) (hS : mSh s0 Θ) (hG : ∀ (L : List tp_P) (c : tp_P) (fr : List (List Nat)) (q : Nat), gt_go (pv_st T N h) pv_C0 (3, (L, c), fr, q, 0) → ∀ (k : Nat) (st : tp_P), L[k]? = some st → tp_G h.1 h.2.length st) (k : ∀ (v : Int32) (s' : ps_S), mw_P T N h Θ s0 s' v → R v s') : ∀ (n : Nat) {s : ps_S} {P : List tp_P} {c : tp_P} {fr : List (List Nat)} {q : Nat}, P.length ≤ 40 → rv_L s b T N h fr q → gt_go (pv_st T N h) pv_C0 (0, (P, c), fr, q, 0) → (∀ (k : Nat) (st : tp_P), P[k]? = some st → rkT s k st) → (ps_i s 1131 42).toInt = P.length → KRW s0 s → pl_At n 240 9 [(0, .ref 1131)] [] s (ps_rI R)
  | 0, _, _, _, _, _, _, _, _, _, _, _ => pl_At_0
  | n + 1, s, P, c, fr, q, hP, L, g, hr, e42, K => by
    have l5 := L.1.2.2.2.2
    have h9 := l5.1
    refine pl_240_9 (fm_192 (fun _ => ⟨fun w => absurd w (by decide), fun _ => ⟨fun w => ?_, fun w => ?_⟩⟩) (fun z => absurd L.2.2.2.1 z))
    · have w : (ps_i s 1131 9).toInt = 0 := xeq w
      have g3 : gt_go (pv_st T N h) pv_C0 (3, (P, c), fr, q, 0) := gt_trans g (gt_one (by
        rw [pv_st_0]
        unfold pv_0
        rw [if_pos (by omega)]))
      exact fm_240_30 hT hwt h21 hS L hP (hG _ _ _ _ g3) g3 hr e42 K k
    · have w : (ps_i s 1131 9).toInt ≠ 0 := xne w
      refine fm_238 (i := P.length) (s0 := s) (C0 := (0, (P, c), fr, q, 0)) (c := c) hP rfl (by omega) ⟨L, gt_refl, KRd_refl, e42⟩ (fun s1 hi q1 => ?_) (fun s1 q1 e34 => ?_)
      · obtain ⟨c', fr', q', ⟨L1, g1, K1, f42⟩, t1⟩ := q1
        have hlen : (P ++ [c']).length = P.length + 1 := List.length_append
        refine fm_240_9 hT hwt h21 hS hG k n (P := P ++ [c']) (by omega) L1 (gt_trans g g1) (fun j st hj => ?_) (by rw [hlen]; exact f42) ⟨kqt K.1 K1.1 (by decide) (by decide), fun r hr => (K1.2.1 r (by omega) (by omega)).trans (K.2 r hr)⟩
        by_cases hjl : j < P.length
        · rw [List.getElem?_append_left hjl] at hj
          exact rkT_KR (hr j st hj) (by omega) hi (by omega) K1
        · have hj' := (List.getElem?_eq_some_iff.mp hj).1
          have e : j = P.length := by omega
          rw [e] at hj ⊢
          rw [List.getElem?_append_right (Nat.le_refl _), Nat.sub_self, List.getElem?_cons_zero] at hj
          cases hj
          exact t1
      · obtain ⟨X, fr', pl, kk, g1, hk0, e5, e6, K1⟩ := q1
        have hb : (ps_i s1 1131 5).toInt ≠ 0 := by omega
        cases n with
        | zero => exact pl_At_0
        | succ n =>
        refine pl_240_9 (fm_192 (fun z => absurd z hb) (fun _ => ⟨fun _ => ?_, fun w => absurd rfl w⟩))
        refine fm_240_30b hb (k _ _ (Or.inr ⟨X, fr', pl, kk, gt_trans g g1, by decide, ⟨e5, e6⟩, kqt K.1 K1.1 (by decide) (by decide), fun r hr => by
          rcases e34 with hi | e34
          · exact (K1.2.1 r (by omega) (by omega)).trans (K.2 r hr)
          · rw [e34]
            exact K.2 r hr⟩))
theorem fm_240 {n : Nat} (hb : b < 2) (h21 : (ps_i s0 1131 21).toInt = b) (h3 : (ps_i s0 1131 3).toInt = N) (hN : N ≤ 1600) (hTT : ∀ k, k < N → (ps_a s0 1132 k &&& 255).toInt = T k) (H : mv_H s0 b h) (hT : tq_GT h.1 Θ) (hwt : WFt h) (hS : mSh s0 Θ) (hG : ∀ (L : List tp_P) (c : tp_P) (fr : List (List Nat)) (q : Nat), gt_go (pv_st T N h) pv_C0 (3, (L, c), fr, q, 0) → ∀ (k : Nat) (st : tp_P), L[k]? = some st → tp_G h.1 h.2.length st) (k : ∀ (v : Int32) (s' : ps_S), mw_P T N h Θ s0 s' v → R v s') : pl_Cl n 240 [.ref 1131] s0 (ps_rI R) := by
  cases n with
  | zero => exact pl_At_0
  | succ n =>
  show pl_At (n + 1) 240 0 [(0, .ref 1131)] [] s0 (ps_rI R)
  refine pl_240_0 (fm_198 h21 h3 hN hTT (fun s1 q1 => ?_))
  obtain ⟨K1, t1, k1, g1, e23, e22, e3⟩ := q1
  have K2 : kq [] [42] s1 (ps_ui s1 1131 42 0) := kqi kq_refl (by decide)
  refine fm_240_9 hT hwt h21 hS hG k n (P := []) (c := ((0, 0, 0, 0), (0, 0), [], [])) (fr := []) (q := 0) (Nat.zero_le _) ⟨⟨hb, by rw [kq_i K2 22 (by decide)]; exact e22, mv_H_kq (mv_H_kq H K1 (by decide)) K2 (by decide), Nat.zero_le _, mv_K_kq k1 K2 (by decide)⟩, mv_T_kq t1 K2 (by decide) (by decide), ⟨by rw [kq_i K2 23 (by decide)]; exact e23, Nat.zero_le _, fun k w z => by cases z⟩, mv_G_kq g1 K2 (by decide) (by decide)⟩ gt_refl (fun j st hj => by cases hj) (by rw [ps_i_ui, if_pos ⟨rfl, rfl⟩]; rfl) ⟨kqt (kqt kq_refl K1 (by decide) (by decide)) K2 (by decide) (by decide), fun r _ => by rw [kq_a K2 1134 (by decide), kq_a K1 1134 (by decide)]⟩
end T240P

