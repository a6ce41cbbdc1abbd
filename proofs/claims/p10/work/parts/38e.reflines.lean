set_option maxRecDepth 100000
/-! the reference: readLine -/
theorem tx_y1 {T : Nat → Nat} {N p : Nat} {h : tx_H} {rel : Bool} (e : (tx_tok T N p).1 ≠ 2) : tx_sym T N rel h p = (4, h, (tx_tok T N p).2.1, tx_bk (tx_tok T N p)) := by
  unfold tx_sym
  dsimp only
  rw [if_neg e]
theorem tx_y2 {T : Nat → Nat} {N p : Nat} {h : tx_H} {rel : Bool} (e : (tx_tok T N p).1 = 2) (e2 : ¬ (tx_at (h.1.1.map Prod.fst) (tx_tok T N p).2.2.2.1 = none ∧ tx_at (h.1.2.map Prod.fst) (tx_tok T N p).2.2.2.1 = none)) : tx_sym T N rel h p = (4, h, (tx_tok T N p).2.1, 3) := by
  unfold tx_sym
  dsimp only
  rw [if_pos e, if_neg e2]
theorem tx_y3 {T : Nat → Nat} {N p : Nat} {h : tx_H} {rel : Bool} (e : (tx_tok T N p).1 = 2) (e2 : (tx_at (h.1.1.map Prod.fst) (tx_tok T N p).2.2.2.1 = none ∧ tx_at (h.1.2.map Prod.fst) (tx_tok T N p).2.2.2.1 = none)) (e3 : (tx_tok T N (tx_tok T N p).2.2.1).1 ≠ 4) : tx_sym T N rel h p = (4, h, (tx_tok T N (tx_tok T N p).2.2.1).2.1, tx_bk (tx_tok T N (tx_tok T N p).2.2.1)) := by
  unfold tx_sym
  dsimp only
  rw [if_pos e, if_pos e2, if_neg e3]
theorem tx_y4 {T : Nat → Nat} {N p : Nat} {h : tx_H} {rel : Bool} (e : (tx_tok T N p).1 = 2) (e2 : (tx_at (h.1.1.map Prod.fst) (tx_tok T N p).2.2.2.1 = none ∧ tx_at (h.1.2.map Prod.fst) (tx_tok T N p).2.2.2.1 = none)) (e3 : (tx_tok T N (tx_tok T N p).2.2.1).1 = 4) (e4 : ¬ (tx_tok T N (tx_tok T N p).2.2.1).2.2.2.2 ≤ 2) : tx_sym T N rel h p = (4, h, (tx_tok T N (tx_tok T N p).2.2.1).2.1, 4) := by
  unfold tx_sym
  dsimp only
  rw [if_pos e, if_pos e2, if_pos e3, if_neg e4]
theorem tx_y5 {T : Nat → Nat} {N p : Nat} {h : tx_H} {rel : Bool} (e : (tx_tok T N p).1 = 2) (e2 : (tx_at (h.1.1.map Prod.fst) (tx_tok T N p).2.2.2.1 = none ∧ tx_at (h.1.2.map Prod.fst) (tx_tok T N p).2.2.2.1 = none)) (e3 : (tx_tok T N (tx_tok T N p).2.2.1).1 = 4) (e4 : (tx_tok T N (tx_tok T N p).2.2.1).2.2.2.2 ≤ 2) : tx_sym T N rel h p = tx_semi T N (if rel = true then ((h.1.1 ++ [((tx_tok T N p).2.2.2.1, (tx_tok T N (tx_tok T N p).2.2.1).2.2.2.2)], h.1.2), h.2) else ((h.1.1, h.1.2 ++ [((tx_tok T N p).2.2.2.1, (tx_tok T N (tx_tok T N p).2.2.1).2.2.2.2)]), h.2)) (tx_tok T N (tx_tok T N p).2.2.1).2.2.1 := by
  unfold tx_sym
  dsimp only
  rw [if_pos e, if_pos e2, if_pos e3, if_pos e4]
theorem tx_z1 {T : Nat → Nat} {N p : Nat} {h : tx_H} (e : (tx_tok T N p).1 ≠ 2) : tx_axm T N h p = (4, h, (tx_tok T N p).2.1, tx_bk (tx_tok T N p)) := by
  unfold tx_axm
  dsimp only
  rw [if_neg e]
theorem tx_z2 {T : Nat → Nat} {N p : Nat} {h : tx_H} (e : (tx_tok T N p).1 = 2) (e2 : tx_at (tx_A h) (tx_tok T N p).2.2.2.1 ≠ none) : tx_axm T N h p = (4, h, (tx_tok T N p).2.1, 3) := by
  unfold tx_axm
  dsimp only
  rw [if_pos e, if_neg e2]
theorem tx_z3 {T : Nat → Nat} {N p : Nat} {h : tx_H} (e : (tx_tok T N p).1 = 2) (e2 : tx_at (tx_A h) (tx_tok T N p).2.2.2.1 = none) {S' : List tx_F} {pl k : Nat} {l' : List Nat} {fr' : List (List Nat)} (g : gt_go (tx_st T N (h.1, true)) (1, [], (tx_tok T N p).2.2.1, [], [], 0) (4, S', pl, l', fr', k)) : tx_axm T N h p = (4, h, pl, k) := by
  unfold tx_axm
  dsimp only
  rw [if_pos e, if_pos e2, gt_end_is g rfl]
  rfl
theorem tx_z4 {T : Nat → Nat} {N p : Nat} {h : tx_H} (e : (tx_tok T N p).1 = 2) (e2 : tx_at (tx_A h) (tx_tok T N p).2.2.2.1 = none) {p' : Nat} {l' : List Nat} {fr' : List (List Nat)} (g : gt_go (tx_st T N (h.1, true)) (1, [], (tx_tok T N p).2.2.1, [], [], 0) (2, [], p', l', fr', 0)) : tx_axm T N h p = tx_semi T N (h.1, h.2 ++ [((tx_tok T N p).2.2.2.1, l')]) p' := by
  have g5 := gt_trans g (gt_one (show tx_st T N (h.1, true) (2, [], p', l', fr', 0) = (3, [], p', l', fr', 0) from rfl))
  unfold tx_axm
  dsimp only
  rw [if_pos e, if_pos e2, gt_end_is g5 rfl]
  rfl
theorem mr_b1 {x1 : Int32} {rel : Bool} {h : tx_H} {s : ps_S} {rb : Nat} (hx : x1.toInt = (if rel = true then 1 else 0)) (hlt : if rel = true then h.1.1.length < 6 else h.1.2.length < 4) (H : mv_H s rb h) : (x1.toInt ≠ 0 → ∃ m : Nat, (ps_a s 1135 rb).toInt = m ∧ m < 6) ∧ (x1.toInt = 0 → ∃ m : Nat, (ps_a s 1136 rb).toInt = m ∧ m < 4) := by
  cases rel with
  | true =>
    have hx : x1.toInt = 1 := hx
    exact ⟨fun _ => ⟨_, H.1.1, hlt⟩, fun z => by omega⟩
  | false =>
    have hx : x1.toInt = 0 := hx
    exact ⟨fun z => by omega, fun _ => ⟨_, H.1.2.1, hlt⟩⟩
theorem mr_ax {i a : Int32} {rb m : Nat} (hi : i.toInt = rb) (hrb : rb < 2) (ha : a.toInt = m) (hm : m < 8) : (((8 : Int32) * i) + a).toInt = (8 * rb + m : Nat) ∧ ((21812 : Int32) + ((41 : Int32) * (((8 : Int32) * i) + a))).toInt = (21812 + 41 * (8 * rb + m) : Nat) := by
  have c8 : (8 : Int32).toInt = 8 := by decide
  have c41 : (41 : Int32).toInt = 41 := by decide
  have c2 : (21812 : Int32).toInt = 21812 := by decide
  have m8 : ((8 : Int32) * i).toInt = 8 * rb := by rw [xm01 hi hrb, c8]
  have e8 : (((8 : Int32) * i) + a).toInt = (8 * rb + m : Nat) := by rw [xIa (by omega) (by omega)]; omega
  have e41 : ((41 : Int32) * (((8 : Int32) * i) + a)).toInt = 41 * (8 * rb + m : Nat) := by rw [xIm (by rw [c41, e8]; omega) (by rw [c41, e8]; omega), c41, e8]
  exact ⟨e8, by rw [xIa (by omega) (by omega)]; omega⟩
theorem fm_209u {n to rb ph : Nat} {s : ps_S} {T : Nat → Nat} {N : Nat} {E : tx_E} {p : Nat} {fr : List (List Nat)} {x1 x2 x3 : Int32} {R : ps_S → Prop} (hx1 : x1.toInt = to) (hph : (x2.toInt = 0 ∧ ph = 0) ∨ (x2.toInt ≠ 0 ∧ ph = 1)) (hx3 : x3.toInt = (if E.2 = true then 1 else 0)) (hrb : rb < 2) (h22 : (ps_i s 1131 22).toInt = rb) (hT : mv_T s T N) (hE : mv_E s rb E.1) (hp : p ≤ N) (hK : mv_K s (tx_tok T N p)) (hP : mv_P s fr) (hG : mv_G s) (k : ∀ s', mx_ok to rb ph s s' T N E p fr ∨ mx_bad to ph s s' T N E p fr → R s') : pl_Cl n 209 [.ref 1131, .int x1, .int x2, .int x3] s (ps_rV R) :=
  fm_209 hx1 hph hx3 hrb h22 hT hE hp hK hP hG (fun s' h => k s' (Or.inl h)) (fun s' h => k s' (Or.inr h))
theorem fm_204_91b {n rb : Nat} {s0 s : ps_S} {R : ps_S → Prop} {d : tx_D4} {x1 x2 : Int32} {h' : tx_H} {pl kk : Nat} (hd : d = (4, h', pl, kk)) (hf : mr_f rb s0 s kk pl) (k0 : ∀ s', mr_bad rb s0 s' d → R s') : pl_At n 204 91 [(0, .ref 1131), (1, .int x1), (2, .int x2)] [] s (ps_rV R) := by
  cases n with
  | zero => exact pl_At_0
  | succ n =>
  have hb : (ps_i s 1131 5).toInt ≠ 0 := by have := hf.1; have := hf.2.1; omega
  refine pl_204_91 ?_
  exact fm_192 (fun z => absurd z hb) (fun _ => ⟨fun h => absurd rfl h, fun _ => k0 _ ⟨h', pl, kk, hd, hf⟩⟩)
theorem fm_204_27b {n rb : Nat} {s0 s : ps_S} {R : ps_S → Prop} {d : tx_D4} {x1 x2 : Int32} {h' : tx_H} {pl kk : Nat} (hd : d = (4, h', pl, kk)) (hf : mr_f rb s0 s kk pl) (k0 : ∀ s', mr_bad rb s0 s' d → R s') : pl_At n 204 27 [(0, .ref 1131), (1, .int x1), (2, .int x2)] [] s (ps_rV R) := by
  cases n with
  | zero => exact pl_At_0
  | succ n =>
  have hb : (ps_i s 1131 5).toInt ≠ 0 := by have := hf.1; have := hf.2.1; omega
  refine pl_204_27 ?_
  exact fm_192 (fun z => absurd z hb) (fun _ => ⟨fun h => absurd rfl h, fun _ => k0 _ ⟨h', pl, kk, hd, hf⟩⟩)
theorem fm_204_82 {n rb : Nat} {s0 s : ps_S} {T : Nat → Nat} {N : Nat} {R : ps_S → Prop} {d : tx_D4} {x1 x2 : Int32} {h : tx_H} {p : Nat} (L : mv_L s rb T N h p) (F : mv_bk rb s0 s) (hd : d = (4, h, (tx_tok T N p).2.1, 3)) (k0 : ∀ s', mr_bad rb s0 s' d → R s') : pl_At n 204 82 [(0, .ref 1131), (1, .int x1), (2, .int x2)] [] s (ps_rV R) := by
  cases n with
  | zero => exact pl_At_0
  | succ n =>
  obtain ⟨hrb, h22, hT, hH, hp, hK, h23, hG⟩ := id L
  refine pl_204_82 ?_
  refine fm_191 hG.1 ?_
  exact fm_204_91b hd ⟨by decide, rfl, hK.2.1, mv_bk_tr F (mv_bk_kq (kqi (kqi kq_refl rfl) rfl : kq [] [5, 6] s _) (by decide) (by decide))⟩ k0

theorem fm_204_91s {n rb : Nat} {s0 s : ps_S} {T : Nat → Nat} {N : Nat} {R : ps_S → Prop} {d : tx_D4} {x1 x2 : Int32} {rel : Bool} {h : tx_H} {p : Nat} (L : mv_L s rb T N h p) (F : mv_bk rb s0 s) (ht : (tx_tok T N p).1 = 2) (hx2 : x2.toInt = 0) (hx : x1.toInt = (if rel = true then 1 else 0)) (hlt : if rel = true then h.1.1.length < 6 else h.1.2.length < 4) (hn : (tx_at (h.1.1.map Prod.fst) (tx_tok T N p).2.2.2.1 = none ∧ tx_at (h.1.2.map Prod.fst) (tx_tok T N p).2.2.2.1 = none)) (hd : d = tx_sym T N rel h p) (k1 : ∀ s', mr_ok rb s0 s' T N d → R s') (k0 : ∀ s', mr_bad rb s0 s' d → R s') : pl_At n 204 91 [(0, .ref 1131), (1, .int x1), (2, .int x2)] [] s (ps_rV R) := by
  cases n with
  | zero => exact pl_At_0
  | succ n =>
  obtain ⟨hrb, h22, hT, hH, hp, hK, h23, hG⟩ := id L
  have hq := (tx_tok_ok (T := T) hp).2.1
  have hw := (tx_tok_ok (T := T) hp).2.2.2.1 ht
  have hl := hK.2.2.2.1 (Or.inl ht)
  refine pl_204_91 ?_
  refine fm_192 (fun q92 => ?_) (fun q92 => ?_)
  · refine ⟨fun h95 => ?_, fun h95 => ?_⟩
    · refine fs_194 hT hK.2.2.1 hq (fun s105 q105 => ?_)
      have L2 := mv_L_adv L hq q105
      have F2 := mv_bk_tr F (mv_bk_kq q105.1 (by decide) (by decide))
      obtain ⟨-, j22, jT, jH, -, jK, j23, jG⟩ := id L2
      have j9 := jK.1
      refine ⟨fun h109 => ?_, fun h109 => ?_⟩
      · have h109 : x2.toInt = (0 : Int) := xeq h109
        refine ⟨fun h186 => ?_, fun h186 => ?_⟩
        · have h186 : (ps_i s105 1131 9).toInt = (4 : Int) := xeq h186
          refine ⟨fun h201 => ?_, fun h201 => ?_⟩
          · have h201 : (ps_i s105 1131 10).toInt ≤ (2 : Int) := xle h201
            exact fm_204_213 L2 F2 hx hlt hw (by have := jK.2.2.2.2 (by omega); omega) hl (jK.2.2.2.2 (by omega)) (hd.trans (tx_y5 ht hn (by omega) (by have := jK.2.2.2.2 (by omega); omega))) k1 k0
          · have h201 : (2 : Int) < (ps_i s105 1131 10).toInt := xlt h201
            refine fm_191 jG.1 ?_
            exact fm_204_213b (hd.trans (tx_y4 ht hn (by omega) (by have := jK.2.2.2.2 (by omega); omega))) ⟨by decide, rfl, jK.2.1, mv_bk_tr F2 (mv_bk_kq (kqi (kqi kq_refl rfl) rfl : kq [] [5, 6] s105 _) (by decide) (by decide))⟩ hrb j22 (mr_b1 hx hlt jH).1 (mr_b1 hx hlt jH).2 k0
        · have h186 : (ps_i s105 1131 9).toInt ≠ (4 : Int) := xne h186
          refine fm_196 jG.1 jK (fun s190 q190 => ?_)
          have e3 : (tx_tok T N (tx_tok T N p).2.2.1).1 ≠ 4 := by omega
          have b1 := mr_b1 hx hlt (mv_H_kq jH q190.2.2 (by decide))
          exact fm_204_213b (hd.trans (tx_y3 ht hn e3)) (mr_f_mis F2 q190.1 q190.2.1 q190.2.2) hrb (by rw [kq_i q190.2.2 22 (by decide)]; exact j22) b1.1 b1.2 k0
      · have h109 : x2.toInt ≠ (0 : Int) := xne h109
        intro b131
        obtain ⟨b131, c131⟩ := pl_in b131
        intro b134
        obtain ⟨b134, c134⟩ := pl_in b134
        intro b156
        obtain ⟨b156, c156⟩ := pl_in b156
        exfalso; omega
    · exact absurd h95 (by decide)
  · refine ⟨fun h95 => ?_, fun h95 => ?_⟩
    · exact absurd h95 (by decide)
    · exact absurd hG.1 q92
theorem fm_204_91a {n rb : Nat} {s0 s : ps_S} {T : Nat → Nat} {N : Nat} {R : ps_S → Prop} {d : tx_D4} {x1 x2 : Int32} {h : tx_H} {p : Nat} (L : mv_L s rb T N h p) (F : mv_bk rb s0 s) (ht : (tx_tok T N p).1 = 2) (hx2 : x2.toInt ≠ 0) (hlt : h.2.length < 8) (hn : tx_at (tx_A h) (tx_tok T N p).2.2.2.1 = none) (hd : d = tx_axm T N h p) (k1 : ∀ s', mr_ok rb s0 s' T N d → R s') (k0 : ∀ s', mr_bad rb s0 s' d → R s') : pl_At n 204 91 [(0, .ref 1131), (1, .int x1), (2, .int x2)] [] s (ps_rV R) := by
  cases n with
  | zero => exact pl_At_0
  | succ n =>
  obtain ⟨hrb, h22, hT, hH, hp, hK, h23, hG⟩ := id L
  have hq := (tx_tok_ok (T := T) hp).2.1
  have hw := (tx_tok_ok (T := T) hp).2.2.2.1 ht
  have hl := hK.2.2.2.1 (Or.inl ht)
  refine pl_204_91 ?_
  refine fm_192 (fun q92 => ?_) (fun q92 => ?_)
  · refine ⟨fun h95 => ?_, fun h95 => ?_⟩
    · refine fs_194 hT hK.2.2.1 hq (fun s105 q105 => ?_)
      have L2 := mv_L_adv L hq q105
      have F2 := mv_bk_tr F (mv_bk_kq q105.1 (by decide) (by decide))
      obtain ⟨-, j22, jT, jH, -, jK, j23, jG⟩ := id L2
      have j9 := jK.1
      refine ⟨fun h109 => ?_, fun h109 => ?_⟩
      · have h109 : x2.toInt = (0 : Int) := xeq h109
        refine ⟨fun h186 => ?_, fun h186 => ?_⟩
        · have h186 : (ps_i s105 1131 9).toInt = (4 : Int) := xeq h186
          refine ⟨fun h201 => ?_, fun h201 => ?_⟩
          · have h201 : (ps_i s105 1131 10).toInt ≤ (2 : Int) := xle h201
            exfalso; omega
          · have h201 : (2 : Int) < (ps_i s105 1131 10).toInt := xlt h201
            exfalso; omega
        · have h186 : (ps_i s105 1131 9).toInt ≠ (4 : Int) := xne h186
          exfalso; omega
      · have h109 : x2.toInt ≠ (0 : Int) := xne h109
        intro b131
        obtain ⟨b131, c131⟩ := pl_in b131
        intro b134
        obtain ⟨b134, c134⟩ := pl_in b134
        intro b156
        obtain ⟨b156, c156⟩ := pl_in b156
        rw [xtn j22, xtn (mr_ax j22 hrb jH.2.1 hlt).1]
        have L3 : mv_L (ps_ub s105 1142 (8 * rb + h.2.length) (ps_j s 1131 11)) rb T N h (tx_tok T N p).2.2.1 := mv_L_w L2 (mv_H_bax jH) (kqb kq_refl rfl)
        have F3 := mv_bk_tr F2 (mv_bk_b (v := ps_j s 1131 11) (i := 8 * rb + h.2.length) (Or.inr (Or.inr ⟨rfl, by omega, by omega⟩)))
        refine fm_209u (to := 21812 + 41 * (8 * rb + h.2.length)) (rb := rb) (ph := 1) (E := (h.1, true)) (p := (tx_tok T N p).2.2.1) (fr := []) (mr_ax j22 hrb (by show (ps_a s105 1137 (ps_i s105 1131 22).toNatClampNeg).toInt = _; rw [xtn j22]; exact jH.2.1) hlt).2 (Or.inr ⟨by decide, rfl⟩) rfl hrb j22 L3.2.2.1 L3.2.2.2.1.1 hq L3.2.2.2.2.2.1 ⟨j23, Nat.zero_le _, fun k w z => by cases z⟩ L3.2.2.2.2.2.2.2 (fun s162 q162 => ?_)
        intro b174
        obtain ⟨b174, c174⟩ := pl_in b174
        intro b177
        obtain ⟨b177, c177⟩ := pl_in b177
        rcases q162 with q | q
        · obtain ⟨p', l', fr', g1, g2, g3, g4⟩ := q
          have hfr : fr' = [] := tx_go_fr (E := (h.1, true)) rfl g1
          have H4 := mv_H_row L3.2.2.2.1 (Nat.le_refl _) g4
          have k22 := g2.2.1
          rw [xtn k22]
          have H5 := mv_H_axm H4 hlt hw (by rw [kq_b g4.1 1142 (by decide), ps_b_ub, if_pos ⟨rfl, rfl⟩]; exact hl) g3.2.2.2.2.2.2.1
          have K5 : kq [1137] [] s162 (ps_ua s162 1137 rb (ps_a s162 1137 rb + 1)) := kqa kq_refl rfl
          have L5 : mv_L (ps_ua s162 1137 rb (ps_a s162 1137 rb + 1)) rb T N (h.1, h.2 ++ [((tx_tok T N p).2.2.2.1, l')]) p' := ⟨hrb, k22, mv_T_kq g2.2.2.2.1 K5 (by decide) (by decide), H5, g3.1, mv_K_kq g3.2.2.1 K5 (by decide), (by have z := g3.2.2.2.2.2.2.2.1.1; rw [hfr] at z; exact z), mv_G_kq g3.2.2.2.2.2.2.2.2 K5 (by decide) (by decide)⟩
          exact fm_204_360 L5 (mv_bk_tr (mv_bk_tr F3 (mv_bk_row hlt g4)) (mv_bk_a (Or.inr (Or.inr (Or.inl ⟨rfl, rfl⟩))))) (hd.trans (tx_z4 ht hn g1)) k1 k0
        · obtain ⟨S', pl, l', fr', kk, g1, g2, g3, g4, g5⟩ := q
          have k22 : (ps_i s162 1131 22).toInt = rb := by rw [kq_i g5.1 22 (by decide)]; exact j22
          rw [xtn k22]
          exact fm_204_360b (hd.trans (tx_z3 ht hn g1)) (mr_f_tr ⟨g2, g3, g4, mv_bk_tr F3 (mv_bk_row hlt g5)⟩ (mv_bk_a (Or.inr (Or.inr (Or.inl ⟨rfl, rfl⟩)))) rfl rfl) k0
    · exact absurd h95 (by decide)
  · refine ⟨fun h95 => ?_, fun h95 => ?_⟩
    · exact absurd h95 (by decide)
    · exact absurd hG.1 q92

theorem fm_204_27 {n rb : Nat} {s0 s : ps_S} {T : Nat → Nat} {N : Nat} {R : ps_S → Prop} {d : tx_D4} {x1 x2 : Int32} {h : tx_H} {p : Nat} (L : mv_L s rb T N h p) (F : mv_bk rb s0 s) (hk : (x2.toInt ≠ 0 ∧ h.2.length < 8 ∧ d = tx_axm T N h (tx_tok T N p).2.2.1) ∨ ∃ rel : Bool, x2.toInt = 0 ∧ x1.toInt = (if rel = true then 1 else 0) ∧ (if rel = true then h.1.1.length < 6 else h.1.2.length < 4) ∧ d = tx_sym T N rel h (tx_tok T N p).2.2.1) (k1 : ∀ s', mr_ok rb s0 s' T N d → R s') (k0 : ∀ s', mr_bad rb s0 s' d → R s') : pl_At n 204 27 [(0, .ref 1131), (1, .int x1), (2, .int x2)] [] s (ps_rV R) := by
  cases n with
  | zero => exact pl_At_0
  | succ n =>
  obtain ⟨hrb, h22, hT, hH, hp, hK, h23, hG⟩ := id L
  have hq := (tx_tok_ok (T := T) hp).2.1
  refine pl_204_27 ?_
  refine fm_192 (fun q28 => ?_) (fun q28 => ?_)
  · refine ⟨fun h31 => ?_, fun h31 => ?_⟩
    · refine fs_194 hT hK.2.2.1 hq (fun s36 q36 => ?_)
      have L2 := mv_L_adv L hq q36
      have F2 := mv_bk_tr F (mv_bk_kq q36.1 (by decide) (by decide))
      obtain ⟨-, j22, jT, jH, jp, jK, j23, jG⟩ := id L2
      have j9 := jK.1
      refine ⟨fun h44 => ?_, fun h44 => ?_⟩
      · have h44 : (ps_i s36 1131 9).toInt = (2 : Int) := xeq h44
        refine ⟨fun h55 => ?_, fun h55 => ?_⟩
        · have h55 : x2.toInt = (0 : Int) := xeq h55
          refine fm_206 (E := (h.1, true)) hrb j22 jH.1 jp jK (fun v69 q69 => ?_)
          refine ⟨fun h72 => ?_, fun h72 => ?_⟩
          · have h72 : (0 : Int) ≤ v69.toInt := xle h72
            rcases hk with ⟨y0, y2, y3⟩ | ⟨rel, y0, y1, y2, y3⟩
            · exfalso; omega
            have h2 : (tx_tok T N (tx_tok T N p).2.2.1).1 = 2 := by omega
            rw [if_pos h2] at q69
            exact fm_204_82 L2 F2 (y3.trans (tx_y2 h2 (fun z => by have := (tx_opt_n q69).mpr z.1; omega))) k0
          · have h72 : v69.toInt < (0 : Int) := xlt h72
            refine fm_207 (E := (h.1, true)) hrb j22 jH.1 jp jK (fun v76 q76 => ?_)
            refine ⟨fun h79 => ?_, fun h79 => ?_⟩
            · have h79 : v76.toInt < (0 : Int) := xlt h79
              rcases hk with ⟨y0, y2, y3⟩ | ⟨rel, y0, y1, y2, y3⟩
              · exfalso; omega
              have h2 : (tx_tok T N (tx_tok T N p).2.2.1).1 = 2 := by omega
              rw [if_pos h2] at q69 q76
              exact fm_204_91s L2 F2 h2 y0 y1 y2 ⟨(tx_opt_n q69).mp (by omega), (tx_opt_n q76).mp (by omega)⟩ y3 k1 k0
            · have h79 : (0 : Int) ≤ v76.toInt := xle h79
              rcases hk with ⟨y0, y2, y3⟩ | ⟨rel, y0, y1, y2, y3⟩
              · exfalso; omega
              have h2 : (tx_tok T N (tx_tok T N p).2.2.1).1 = 2 := by omega
              rw [if_pos h2] at q76
              exact fm_204_82 L2 F2 (y3.trans (tx_y2 h2 (fun z => by have := (tx_opt_n q76).mpr z.2; omega))) k0
        · have h55 : x2.toInt ≠ (0 : Int) := xne h55
          refine fm_205 L2 (fun v59 q59 => ?_)
          refine ⟨fun h62 => ?_, fun h62 => ?_⟩
          · have h62 : v59.toInt < (0 : Int) := xlt h62
            have hk2 : h.2.length < 8 ∧ d = tx_axm T N h (tx_tok T N p).2.2.1 := by
              rcases hk with ⟨y0, y2, y3⟩ | ⟨rel, y0, y1, y2, y3⟩
              · exact ⟨y2, y3⟩
              · exfalso; omega
            obtain ⟨y2, y3⟩ := hk2
            have y0 : x2.toInt ≠ 0 := by omega
            have h2 : (tx_tok T N (tx_tok T N p).2.2.1).1 = 2 := by omega
            rw [if_pos h2] at q59
            exact fm_204_91a L2 F2 h2 y0 y2 ((tx_opt_n q59).mp (by omega)) y3 k1 k0
          · have h62 : (0 : Int) ≤ v59.toInt := xle h62
            have hk2 : h.2.length < 8 ∧ d = tx_axm T N h (tx_tok T N p).2.2.1 := by
              rcases hk with ⟨y0, y2, y3⟩ | ⟨rel, y0, y1, y2, y3⟩
              · exact ⟨y2, y3⟩
              · exfalso; omega
            obtain ⟨y2, y3⟩ := hk2
            have y0 : x2.toInt ≠ 0 := by omega
            have h2 : (tx_tok T N (tx_tok T N p).2.2.1).1 = 2 := by omega
            rw [if_pos h2] at q59
            exact fm_204_82 L2 F2 (y3.trans (tx_z2 h2 (fun z => by have := (tx_opt_n q59).mpr z; omega))) k0
      · have h44 : (ps_i s36 1131 9).toInt ≠ (2 : Int) := xne h44
        refine fm_196 jG.1 jK (fun s48 q48 => ?_)
        have hd : d = (4, h, (tx_tok T N (tx_tok T N p).2.2.1).2.1, tx_bk (tx_tok T N (tx_tok T N p).2.2.1)) := by
          rcases hk with ⟨y0, y2, y3⟩ | ⟨rel, y0, y1, y2, y3⟩
          · exact y3.trans (tx_z1 (by omega))
          · exact y3.trans (tx_y1 (by omega))
        exact fm_204_91b hd (mr_f_mis F2 q48.1 q48.2.1 q48.2.2) k0
    · exact absurd h31 (by decide)
  · refine ⟨fun h31 => ?_, fun h31 => ?_⟩
    · exact absurd h31 (by decide)
    · exact absurd hG.1 q28
theorem fm_204 {n rb : Nat} {s0 s : ps_S} {T : Nat → Nat} {N : Nat} {R : ps_S → Prop} {d : tx_D4} {h : tx_H} {p : Nat} (L : mv_L s rb T N h p) (F : mv_bk rb s0 s) (h0 : (tx_tok T N p).1 ≠ 0) (hd : d = tx_ln T N (0, h, p, 0)) (k1 : ∀ s', mr_ok rb s0 s' T N d → R s') (k0 : ∀ s', mr_bad rb s0 s' d → R s') : pl_Cl n 204 [.ref 1131] s (ps_rV R) := by
  cases n with
  | zero => exact pl_At_0
  | succ n =>
  show pl_At (n + 1) 204 0 [(0, .ref 1131)] [] s (ps_rV R)
  obtain ⟨hrb, h22, hT, hH, hp, hK, h23, hG⟩ := id L
  refine pl_204_0 ?_
  refine fm_195 (w := [114, 101, 108]) (q := 8) hK (by decide) (by decide +kernel) (fun q4 => ?_) (fun q4 => ?_)
  · refine fm_195 (w := [97, 120, 105, 111, 109]) (q := 10) hK (by decide) (by decide +kernel) (fun q12 => ?_) (fun q12 => ?_)
    · refine fm_203 L (fun q17 => ?_) (fun q17 => ?_)
      · refine ⟨fun h20 => ?_, fun h20 => ?_⟩
        · exact absurd h20 (by decide)
        · refine fm_196 hG.1 hK (fun s24 q24 => ?_)
          exact fm_204_27b (hd.trans (tx_l_bad h0 q17)) (mr_f_mis F q24.1 q24.2.1 q24.2.2) k0
      · refine ⟨fun h20 => ?_, fun h20 => ?_⟩
        · exfalso; omega
        · exact absurd h20 (by decide)
    · refine fm_203 L (fun q17 => ?_) (fun q17 => ?_)
      · refine ⟨fun h20 => ?_, fun h20 => ?_⟩
        · exact absurd h20 (by decide)
        · refine fm_196 hG.1 hK (fun s24 q24 => ?_)
          exact fm_204_27b (hd.trans (tx_l_bad h0 q17)) (mr_f_mis F q24.1 q24.2.1 q24.2.2) k0
      · refine ⟨fun h20 => ?_, fun h20 => ?_⟩
        · exact fm_204_27 L F (Or.inr ⟨true, rfl, rfl, (show h.1.1.length < 6 by omega), hd.trans (tx_l_rel q4.1 q4.2 (by omega))⟩) k1 k0
        · exact absurd h20 (by decide)
  · refine fm_195 (w := [97, 120, 105, 111, 109]) (q := 10) hK (by decide) (by decide +kernel) (fun q12 => ?_) (fun q12 => ?_)
    · refine fm_203 L (fun q17 => ?_) (fun q17 => ?_)
      · refine ⟨fun h20 => ?_, fun h20 => ?_⟩
        · exact absurd h20 (by decide)
        · refine fm_196 hG.1 hK (fun s24 q24 => ?_)
          exact fm_204_27b (hd.trans (tx_l_bad h0 q17)) (mr_f_mis F q24.1 q24.2.1 q24.2.2) k0
      · refine ⟨fun h20 => ?_, fun h20 => ?_⟩
        · exact fm_204_27 L F (Or.inl ⟨by decide, by omega, hd.trans (tx_l_axm q12.1 q12.2 (by omega))⟩) k1 k0
        · exact absurd h20 (by decide)
    · refine fm_203 L (fun q17 => ?_) (fun q17 => ?_)
      · refine ⟨fun h20 => ?_, fun h20 => ?_⟩
        · exact absurd h20 (by decide)
        · refine fm_196 hG.1 hK (fun s24 q24 => ?_)
          exact fm_204_27b (hd.trans (tx_l_bad h0 q17)) (mr_f_mis F q24.1 q24.2.1 q24.2.2) k0
      · refine ⟨fun h20 => ?_, fun h20 => ?_⟩
        · exact fm_204_27 L F (Or.inr ⟨false, rfl, rfl, (show h.1.2.length < 4 by omega), hd.trans (tx_l_fun (by omega) (by omega) (by omega))⟩) k1 k0
        · exact absurd h20 (by decide)

