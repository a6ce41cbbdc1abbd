set_option maxRecDepth 100000
/-! the reference: readLine -/
theorem fm_204_360b {n rb : Nat} {s0 s : ps_S} {R : ps_S → Prop} {d : tx_D4} {h' : tx_H} {pl kk : Nat} (hd : d = (4, h', pl, kk)) (hf : mr_f rb s0 s kk pl) (k0 : ∀ s', mr_bad rb s0 s' d → R s') : pl_At n 204 360 [(0, .ref 1131)] [] s (ps_rV R) := by
  cases n with
  | zero => exact pl_At_0
  | succ n =>
  have hb : (ps_i s 1131 5).toInt ≠ 0 := by have := hf.1; have := hf.2.1; omega
  refine pl_204_360 ?_
  refine ⟨fun h366 => ?_, fun h366 => ?_⟩
  · have h366 : (ps_i s 1131 9).toInt ≠ (5 : Int) := xne h366
    exact fm_197b hb (k0 _ ⟨h', pl, kk, hd, hf⟩)
  · have h366 : (ps_i s 1131 9).toInt = (5 : Int) := xeq h366
    exact fm_197b hb (k0 _ ⟨h', pl, kk, hd, hf⟩)
theorem fm_204_360 {n rb : Nat} {s0 s : ps_S} {T : Nat → Nat} {N : Nat} {R : ps_S → Prop} {d : tx_D4} {h : tx_H} {p : Nat} (L : mv_L s rb T N h p) (F : mv_bk rb s0 s) (hd : d = tx_semi T N h p) (k1 : ∀ s', mr_ok rb s0 s' T N d → R s') (k0 : ∀ s', mr_bad rb s0 s' d → R s') : pl_At n 204 360 [(0, .ref 1131)] [] s (ps_rV R) := by
  cases n with
  | zero => exact pl_At_0
  | succ n =>
  obtain ⟨hrb, h22, hT, hH, hp, hK, h23, hG⟩ := id L
  have h9 := hK.1
  refine pl_204_360 ?_
  refine ⟨fun h366 => ?_, fun h366 => ?_⟩
  · have h366 : (ps_i s 1131 9).toInt ≠ (5 : Int) := xne h366
    refine fm_197g (rb := rb) hG hT hp hK (fun z => absurd rfl z) (fun _ s' q => ?_)
    exact k0 _ ⟨h, _, _, hd.trans (tx_semi_no (by omega)), mr_f_mis F q.1 q.2.1 q.2.2⟩
  · have h366 : (ps_i s 1131 9).toInt = (5 : Int) := xeq h366
    refine fm_197g (rb := rb) hG hT hp hK (fun _ s' A => ?_) (fun z => absurd z (by decide))
    exact k1 _ ⟨h, _, hd.trans (tx_semi_ok (by omega)), mv_L_adv L (tx_tok_ok (T := T) hp).2.1 A, mv_bk_tr F (mv_bk_kq A.1 (by decide) (by decide))⟩

theorem fm_204_282b {n rb : Nat} {s0 s : ps_S} {R : ps_S → Prop} {d : tx_D4} {x1 : Int32} {l3 : Int64} {h' : tx_H} {pl kk : Nat} (hd : d = (4, h', pl, kk)) (hf : mr_f rb s0 s kk pl) (hrb : rb < 2) (h22 : (ps_i s 1131 22).toInt = rb) (hb1 : x1.toInt ≠ 0 → ∃ m : Nat, (ps_a s 1135 rb).toInt = m ∧ m < 6) (hb0 : x1.toInt = 0 → ∃ m : Nat, (ps_a s 1136 rb).toInt = m ∧ m < 4) (k0 : ∀ s', mr_bad rb s0 s' d → R s') : pl_At n 204 282 [(0, .ref 1131), (1, .int x1), (3, .long l3)] [] s (ps_rV R) := by
  cases n with
  | zero => exact pl_At_0
  | succ n =>
  have c4 : (4 : Int32).toInt = 4 := by decide
  have c6 : (6 : Int32).toInt = 6 := by decide
  have m4 : ((4 : Int32) * (ps_i s 1131 22)).toInt = 4 * rb := by rw [xm01 h22 hrb, c4]
  have m6 : ((6 : Int32) * (ps_i s 1131 22)).toInt = 6 * rb := by rw [xm01 h22 hrb, c6]
  refine pl_204_282 ?_
  refine ⟨fun h283 => ?_, fun h283 => ?_⟩
  · have h283 : x1.toInt = (0 : Int) := xeq h283
    intro b343
    obtain ⟨b343, c343⟩ := pl_in b343
    intro b346
    obtain ⟨b346, c346⟩ := pl_in b346
    intro b356
    obtain ⟨b356, c356⟩ := pl_in b356
    intro b359
    obtain ⟨b359, c359⟩ := pl_in b359
    obtain ⟨m, hm, hm4⟩ := hb0 (by omega)
    have e4 : (((4 : Int32) * (ps_i s 1131 22)) + (ps_a s 1136 rb)).toInt = (4 * rb + m : Nat) := by rw [xIa (by omega) (by omega)]; omega
    show pl_At _ 204 360 [(0, .ref 1131)] [] (ps_ua (ps_ub s 1141 (Int32.toNatClampNeg (((4 : Int32) * (ps_i s 1131 22)) + (ps_a s 1136 (Int32.toNatClampNeg (ps_i s 1131 22))))) l3) 1136 (Int32.toNatClampNeg (ps_i s 1131 22)) (ps_a s 1136 (Int32.toNatClampNeg (ps_i s 1131 22)) + 1)) _
    rw [xtn h22, xtn e4]
    exact fm_204_360b hd (mr_f_tr hf (mv_bk_tr (mv_bk_b (Or.inr (Or.inl ⟨rfl, by omega, by omega⟩))) (mv_bk_a (Or.inr (Or.inl ⟨rfl, rfl⟩)))) rfl rfl) k0
  · have h283 : x1.toInt ≠ (0 : Int) := xne h283
    intro b305
    obtain ⟨b305, c305⟩ := pl_in b305
    intro b308
    obtain ⟨b308, c308⟩ := pl_in b308
    intro b318
    obtain ⟨b318, c318⟩ := pl_in b318
    intro b321
    obtain ⟨b321, c321⟩ := pl_in b321
    obtain ⟨m, hm, hm4⟩ := hb1 (by omega)
    have e6 : (((6 : Int32) * (ps_i s 1131 22)) + (ps_a s 1135 rb)).toInt = (6 * rb + m : Nat) := by rw [xIa (by omega) (by omega)]; omega
    show pl_At _ 204 360 [(0, .ref 1131)] [] (ps_ua (ps_ub s 1140 (Int32.toNatClampNeg (((6 : Int32) * (ps_i s 1131 22)) + (ps_a s 1135 (Int32.toNatClampNeg (ps_i s 1131 22))))) l3) 1135 (Int32.toNatClampNeg (ps_i s 1131 22)) (ps_a s 1135 (Int32.toNatClampNeg (ps_i s 1131 22)) + 1)) _
    rw [xtn h22, xtn e6]
    exact fm_204_360b hd (mr_f_tr hf (mv_bk_tr (mv_bk_b (Or.inl ⟨rfl, by omega, by omega⟩)) (mv_bk_a (Or.inl ⟨rfl, rfl⟩))) rfl rfl) k0
theorem fm_204_271b {n rb : Nat} {s0 s : ps_S} {R : ps_S → Prop} {d : tx_D4} {x1 : Int32} {l3 : Int64} {h' : tx_H} {pl kk : Nat} (hd : d = (4, h', pl, kk)) (hf : mr_f rb s0 s kk pl) (hrb : rb < 2) (h22 : (ps_i s 1131 22).toInt = rb) (hb1 : x1.toInt ≠ 0 → ∃ m : Nat, (ps_a s 1135 rb).toInt = m ∧ m < 6) (hb0 : x1.toInt = 0 → ∃ m : Nat, (ps_a s 1136 rb).toInt = m ∧ m < 4) (k0 : ∀ s', mr_bad rb s0 s' d → R s') : pl_At n 204 271 [(0, .ref 1131), (1, .int x1), (3, .long l3)] [] s (ps_rV R) := by
  cases n with
  | zero => exact pl_At_0
  | succ n =>
  have hb : (ps_i s 1131 5).toInt ≠ 0 := by have := hf.1; have := hf.2.1; omega
  refine pl_204_271 ?_
  exact fm_192 (fun z => absurd z hb) (fun _ => ⟨fun _ => fm_204_282b hd hf hrb h22 hb1 hb0 k0, fun h => absurd rfl h⟩)
theorem fm_204_213b {n rb : Nat} {s0 s : ps_S} {R : ps_S → Prop} {d : tx_D4} {x1 : Int32} {l3 : Int64} {h' : tx_H} {pl kk : Nat} (hd : d = (4, h', pl, kk)) (hf : mr_f rb s0 s kk pl) (hrb : rb < 2) (h22 : (ps_i s 1131 22).toInt = rb) (hb1 : x1.toInt ≠ 0 → ∃ m : Nat, (ps_a s 1135 rb).toInt = m ∧ m < 6) (hb0 : x1.toInt = 0 → ∃ m : Nat, (ps_a s 1136 rb).toInt = m ∧ m < 4) (k0 : ∀ s', mr_bad rb s0 s' d → R s') : pl_At n 204 213 [(0, .ref 1131), (1, .int x1), (3, .long l3)] [] s (ps_rV R) := by
  cases n with
  | zero => exact pl_At_0
  | succ n =>
  have c4 : (4 : Int32).toInt = 4 := by decide
  have c6 : (6 : Int32).toInt = 6 := by decide
  have m4 : ((4 : Int32) * (ps_i s 1131 22)).toInt = 4 * rb := by rw [xm01 h22 hrb, c4]
  have m6 : ((6 : Int32) * (ps_i s 1131 22)).toInt = 6 * rb := by rw [xm01 h22 hrb, c6]
  refine pl_204_213 ?_
  refine ⟨fun h214 => ?_, fun h214 => ?_⟩
  · have h214 : x1.toInt = (0 : Int) := xeq h214
    intro b264
    obtain ⟨b264, c264⟩ := pl_in b264
    intro b270
    obtain ⟨b270, c270⟩ := pl_in b270
    obtain ⟨m, hm, hm4⟩ := hb0 (by omega)
    have e4 : (((4 : Int32) * (ps_i s 1131 22)) + (ps_a s 1136 rb)).toInt = (4 * rb + m : Nat) := by rw [xIa (by omega) (by omega)]; omega
    rw [xtn h22, xtn e4]
    exact fm_204_271b hd (mr_f_tr hf (mv_bk_a (Or.inr (Or.inr (Or.inr (Or.inr ⟨rfl, by omega, by omega⟩))))) rfl rfl) hrb h22 (fun z => by omega) (fun _ => ⟨m, hm, hm4⟩) k0
  · have h214 : x1.toInt ≠ (0 : Int) := xne h214
    intro b236
    obtain ⟨b236, c236⟩ := pl_in b236
    intro b242
    obtain ⟨b242, c242⟩ := pl_in b242
    obtain ⟨m, hm, hm4⟩ := hb1 (by omega)
    have e6 : (((6 : Int32) * (ps_i s 1131 22)) + (ps_a s 1135 rb)).toInt = (6 * rb + m : Nat) := by rw [xIa (by omega) (by omega)]; omega
    rw [xtn h22, xtn e6]
    exact fm_204_271b hd (mr_f_tr hf (mv_bk_a (Or.inr (Or.inr (Or.inr (Or.inl ⟨rfl, by omega, by omega⟩)))))  rfl rfl) hrb h22 (fun _ => ⟨m, hm, hm4⟩) (fun z => by omega) k0

theorem mv_L_w {rb : Nat} {s s' : ps_S} {T : Nat → Nat} {N : Nat} {h h' : tx_H} {p : Nat} (L : mv_L s rb T N h p) (H : mv_H s' rb h') (K : kq [1135, 1136, 1137, 1138, 1139, 1140, 1141, 1142] [] s s') : mv_L s' rb T N h' p := by
  obtain ⟨l1, l2, l3, l4, l5, l6, l7, l8⟩ := L
  exact ⟨l1, by rw [kq_i K 22 (by decide)]; exact l2, mv_T_kq l3 K (by decide) (by decide), H, l5, mv_K_kq l6 K (by decide), by rw [kq_i K 23 (by decide)]; exact l7, mv_G_kq l8 K (by decide) (by decide)⟩
theorem fm_204_282 {n rb : Nat} {s0 s : ps_S} {T : Nat → Nat} {N : Nat} {R : ps_S → Prop} {d : tx_D4} {x1 : Int32} {l3 : Int64} {rel : Bool} {h : tx_H} {p : Nat} (L : mv_L s rb T N h p) (F : mv_bk rb s0 s) (hx : x1.toInt = (if rel = true then 1 else 0)) (hlt : if rel = true then h.1.1.length < 6 else h.1.2.length < 4) {w : List Nat} {a : Nat} (hw : tx_w w) (ha : a ≤ 2) (hl : l3 = tx_m w) (hnum : (if rel = true then ps_a s 1138 (6 * rb + h.1.1.length) else ps_a s 1139 (4 * rb + h.1.2.length)).toInt = a) (hd : d = tx_semi T N (if rel = true then ((h.1.1 ++ [(w, a)], h.1.2), h.2) else ((h.1.1, h.1.2 ++ [(w, a)]), h.2)) p) (k1 : ∀ s', mr_ok rb s0 s' T N d → R s') (k0 : ∀ s', mr_bad rb s0 s' d → R s') : pl_At n 204 282 [(0, .ref 1131), (1, .int x1), (3, .long l3)] [] s (ps_rV R) := by
  cases n with
  | zero => exact pl_At_0
  | succ n =>
  obtain ⟨hrb, h22, hT, hH, hp, hK, h23, hG⟩ := id L
  have a1 := hH.1.1
  have a2 := hH.1.2.1
  have c4 : (4 : Int32).toInt = 4 := by decide
  have c6 : (6 : Int32).toInt = 6 := by decide
  have m4 : ((4 : Int32) * (ps_i s 1131 22)).toInt = 4 * rb := by rw [xm01 h22 hrb, c4]
  have m6 : ((6 : Int32) * (ps_i s 1131 22)).toInt = 6 * rb := by rw [xm01 h22 hrb, c6]
  refine pl_204_282 ?_
  refine ⟨fun h283 => ?_, fun h283 => ?_⟩
  · have h283 : x1.toInt = (0 : Int) := xeq h283
    intro b343
    obtain ⟨b343, c343⟩ := pl_in b343
    intro b346
    obtain ⟨b346, c346⟩ := pl_in b346
    intro b356
    obtain ⟨b356, c356⟩ := pl_in b356
    intro b359
    obtain ⟨b359, c359⟩ := pl_in b359
    have hr : rel = false := by
      cases rel with
      | false => rfl
      | true => rw [if_pos rfl] at hx; omega
    subst hr
    have hlt : h.1.2.length < 4 := hlt
    have hnum : (ps_a s 1139 (4 * rb + h.1.2.length)).toInt = a := hnum
    have e4 : (((4 : Int32) * (ps_i s 1131 22)) + (ps_a s 1136 rb)).toInt = (4 * rb + h.1.2.length : Nat) := by rw [xIa (by omega) (by omega)]; omega
    show pl_At _ 204 360 [(0, .ref 1131)] [] (ps_ua (ps_ub s 1141 (Int32.toNatClampNeg (((4 : Int32) * (ps_i s 1131 22)) + (ps_a s 1136 (Int32.toNatClampNeg (ps_i s 1131 22))))) l3) 1136 (Int32.toNatClampNeg (ps_i s 1131 22)) (ps_a s 1136 (Int32.toNatClampNeg (ps_i s 1131 22)) + 1)) _
    rw [xtn h22, xtn e4]
    exact fm_204_360 (mv_L_w L (mv_H_fun hH hrb hlt hw ha hl hnum) (kqa (kqb kq_refl rfl) rfl)) (mv_bk_tr F (mv_bk_tr (mv_bk_b (Or.inr (Or.inl ⟨rfl, by omega, by omega⟩))) (mv_bk_a (Or.inr (Or.inl ⟨rfl, rfl⟩))))) hd k1 k0
  · have h283 : x1.toInt ≠ (0 : Int) := xne h283
    intro b305
    obtain ⟨b305, c305⟩ := pl_in b305
    intro b308
    obtain ⟨b308, c308⟩ := pl_in b308
    intro b318
    obtain ⟨b318, c318⟩ := pl_in b318
    intro b321
    obtain ⟨b321, c321⟩ := pl_in b321
    have hr : rel = true := by
      cases rel with
      | true => rfl
      | false => rw [if_neg (by decide)] at hx; omega
    subst hr
    have hlt : h.1.1.length < 6 := hlt
    have hnum : (ps_a s 1138 (6 * rb + h.1.1.length)).toInt = a := hnum
    have e6 : (((6 : Int32) * (ps_i s 1131 22)) + (ps_a s 1135 rb)).toInt = (6 * rb + h.1.1.length : Nat) := by rw [xIa (by omega) (by omega)]; omega
    show pl_At _ 204 360 [(0, .ref 1131)] [] (ps_ua (ps_ub s 1140 (Int32.toNatClampNeg (((6 : Int32) * (ps_i s 1131 22)) + (ps_a s 1135 (Int32.toNatClampNeg (ps_i s 1131 22))))) l3) 1135 (Int32.toNatClampNeg (ps_i s 1131 22)) (ps_a s 1135 (Int32.toNatClampNeg (ps_i s 1131 22)) + 1)) _
    rw [xtn h22, xtn e6]
    exact fm_204_360 (mv_L_w L (mv_H_rel hH hrb hlt hw ha hl hnum) (kqa (kqb kq_refl rfl) rfl)) (mv_bk_tr F (mv_bk_tr (mv_bk_b (Or.inl ⟨rfl, by omega, by omega⟩)) (mv_bk_a (Or.inl ⟨rfl, rfl⟩)))) hd k1 k0
theorem fm_204_271 {n rb : Nat} {s0 s : ps_S} {T : Nat → Nat} {N : Nat} {R : ps_S → Prop} {d : tx_D4} {x1 : Int32} {l3 : Int64} {rel : Bool} {h : tx_H} {p : Nat} (L : mv_L s rb T N h p) (F : mv_bk rb s0 s) (hx : x1.toInt = (if rel = true then 1 else 0)) (hlt : if rel = true then h.1.1.length < 6 else h.1.2.length < 4) {w : List Nat} {a : Nat} (hw : tx_w w) (ha : a ≤ 2) (hl : l3 = tx_m w) (hnum : (if rel = true then ps_a s 1138 (6 * rb + h.1.1.length) else ps_a s 1139 (4 * rb + h.1.2.length)).toInt = a) (hd : d = tx_semi T N (if rel = true then ((h.1.1 ++ [(w, a)], h.1.2), h.2) else ((h.1.1, h.1.2 ++ [(w, a)]), h.2)) (tx_tok T N p).2.2.1) (k1 : ∀ s', mr_ok rb s0 s' T N d → R s') (k0 : ∀ s', mr_bad rb s0 s' d → R s') : pl_At n 204 271 [(0, .ref 1131), (1, .int x1), (3, .long l3)] [] s (ps_rV R) := by
  cases n with
  | zero => exact pl_At_0
  | succ n =>
  obtain ⟨hrb, h22, hT, hH, hp, hK, h23, hG⟩ := id L
  have hq := (tx_tok_ok (T := T) hp).2.1
  refine pl_204_271 ?_
  refine fm_192 (fun _ => ⟨fun h => absurd h (by decide), fun _ => ?_⟩) (fun z => absurd hG.1 z)
  refine fs_194 hT hK.2.2.1 hq (fun s2 A => ?_)
  exact fm_204_282 (mv_L_adv L hq A) (mv_bk_tr F (mv_bk_kq A.1 (by decide) (by decide))) hx hlt hw ha hl (by rw [kq_a A.1 1138 (by decide), kq_a A.1 1139 (by decide)]; exact hnum) hd k1 k0
theorem fm_204_213 {n rb : Nat} {s0 s : ps_S} {T : Nat → Nat} {N : Nat} {R : ps_S → Prop} {d : tx_D4} {x1 : Int32} {l3 : Int64} {rel : Bool} {h : tx_H} {p : Nat} (L : mv_L s rb T N h p) (F : mv_bk rb s0 s) (hx : x1.toInt = (if rel = true then 1 else 0)) (hlt : if rel = true then h.1.1.length < 6 else h.1.2.length < 4) {w : List Nat} {a : Nat} (hw : tx_w w) (ha : a ≤ 2) (hl : l3 = tx_m w) (hn : (ps_i s 1131 10).toInt = a) (hd : d = tx_semi T N (if rel = true then ((h.1.1 ++ [(w, a)], h.1.2), h.2) else ((h.1.1, h.1.2 ++ [(w, a)]), h.2)) (tx_tok T N p).2.2.1) (k1 : ∀ s', mr_ok rb s0 s' T N d → R s') (k0 : ∀ s', mr_bad rb s0 s' d → R s') : pl_At n 204 213 [(0, .ref 1131), (1, .int x1), (3, .long l3)] [] s (ps_rV R) := by
  cases n with
  | zero => exact pl_At_0
  | succ n =>
  obtain ⟨hrb, h22, hT, hH, hp, hK, h23, hG⟩ := id L
  have a1 := hH.1.1
  have a2 := hH.1.2.1
  have c4 : (4 : Int32).toInt = 4 := by decide
  have c6 : (6 : Int32).toInt = 6 := by decide
  have m4 : ((4 : Int32) * (ps_i s 1131 22)).toInt = 4 * rb := by rw [xm01 h22 hrb, c4]
  have m6 : ((6 : Int32) * (ps_i s 1131 22)).toInt = 6 * rb := by rw [xm01 h22 hrb, c6]
  refine pl_204_213 ?_
  refine ⟨fun h214 => ?_, fun h214 => ?_⟩
  · have h214 : x1.toInt = (0 : Int) := xeq h214
    intro b264
    obtain ⟨b264, c264⟩ := pl_in b264
    intro b270
    obtain ⟨b270, c270⟩ := pl_in b270
    have hr : rel = false := by
      cases rel with
      | false => rfl
      | true => rw [if_pos rfl] at hx; omega
    subst hr
    have hlt' : h.1.2.length < 4 := hlt
    have e4 : (((4 : Int32) * (ps_i s 1131 22)) + (ps_a s 1136 rb)).toInt = (4 * rb + h.1.2.length : Nat) := by rw [xIa (by omega) (by omega)]; omega
    rw [xtn h22, xtn e4]
    exact fm_204_271 (rel := false) (mv_L_w L (mv_H_tfun hH) (kqa kq_refl rfl)) (mv_bk_tr F (mv_bk_a (Or.inr (Or.inr (Or.inr (Or.inr ⟨rfl, by omega, by omega⟩)))))) hx hlt hw ha hl (by show (ps_a (ps_ua s 1139 (4 * rb + h.1.2.length) (ps_i s 1131 10)) 1139 (4 * rb + h.1.2.length)).toInt = a; rw [ps_a_ua, if_pos ⟨rfl, rfl⟩]; exact hn) hd k1 k0
  · have h214 : x1.toInt ≠ (0 : Int) := xne h214
    intro b236
    obtain ⟨b236, c236⟩ := pl_in b236
    intro b242
    obtain ⟨b242, c242⟩ := pl_in b242
    have hr : rel = true := by
      cases rel with
      | true => rfl
      | false => rw [if_neg (by decide)] at hx; omega
    subst hr
    have hlt' : h.1.1.length < 6 := hlt
    have e6 : (((6 : Int32) * (ps_i s 1131 22)) + (ps_a s 1135 rb)).toInt = (6 * rb + h.1.1.length : Nat) := by rw [xIa (by omega) (by omega)]; omega
    rw [xtn h22, xtn e6]
    exact fm_204_271 (rel := true) (mv_L_w L (mv_H_trel hH) (kqa kq_refl rfl)) (mv_bk_tr F (mv_bk_a (Or.inr (Or.inr (Or.inr (Or.inl ⟨rfl, by omega, by omega⟩)))))) hx hlt hw ha hl (by show (ps_a (ps_ua s 1138 (6 * rb + h.1.1.length) (ps_i s 1131 10)) 1138 (6 * rb + h.1.1.length)).toInt = a; rw [ps_a_ua, if_pos ⟨rfl, rfl⟩]; exact hn) hd k1 k0

