set_option maxRecDepth 100000
/-! the reference's reader: beginsFormula -/
theorem fm_214_133 {n rb to : Nat} {s0 s : ps_S} {T : Nat → Nat} {N : Nat} {E : tx_E} {c0 : tx_C} {S : List tx_F} {p : Nat} {l : List Nat} {fr : List (List Nat)} {R : ps_S → Prop} (HS : mv_S rb s T N E) (D : mv_D to s T N S p l fr (l.length + tx_due S)) (h40 : l.length + tx_due S ≤ 40) (hS : S.length ≤ 12) (h2 : (tx_tok T N p).1 = 2) (F : mv_fr to s0 s) (hs : tx_st T N E c0 = (2, (1, true, false, some (tx_tok T N p).2.2.2.1) :: S, (tx_tok T N p).2.2.1, l, fr, 0)) (k : ∀ s', mv_res to s0 s' T N E c0 → R s') : pl_At n 214 133 [(0, .ref 1131)] [] s (ps_rV R) := by
  cases n with
  | zero => exact pl_At_0
  | succ n =>
  obtain ⟨d1, d2, d3, d4, d5, d6, d7, d8⟩ := D
  have hok := tx_tok_ok (T := T) d1
  have hw := hok.2.2.2.1 h2
  have h8 := d2.2.2.2.1 (Or.inl h2)
  refine pl_214_133 ?_
  refine fm_192 (fun q134 => ?_) (fun q134 => ?_)
  · refine ⟨fun h137 => ?_, fun h137 => ?_⟩
    · refine fm_211 (m := 1) (b := true) rfl rfl d3 (by omega) (fun s144 q144 => ?_)
      intro b158
      obtain ⟨b158, c158⟩ := pl_in b158
      intro b173
      obtain ⟨b173, c173⟩ := pl_in b173
      have b1 : (ps_i s144 1131 29).toInt = (S.length + 1 : Nat) := q144.1.1
      have ei : (ps_i s144 1131 29 - 1).toInt = (S.length : Nat) := by
        have h1 : (1 : Int32).toInt = 1 := by decide
        rw [xIs (by omega) (by omega)]
        omega
      have e8 : ps_j s144 1131 11 = tx_m (tx_tok T N p).2.2.2.1 := by rw [kq_j q144.2 11 (by decide)]; exact h8
      have B4 := mv_B_bind (v := ps_j s144 1131 11) q144.1 (xtn ei) hw e8
      have K4 : kq [1144, 1145, 1146, 1147, 1148] [29, 30] s (ps_ui (ps_ub (ps_ua s144 1147 (Int32.toNatClampNeg (ps_i s144 1131 29 - 1)) ((1 : Int32) &&& 1)) 1148 (Int32.toNatClampNeg (ps_i s144 1131 29 - 1)) (ps_j s144 1131 11)) 1131 30 (ps_i s144 1131 30 + 1)) := kqi (kqb (kqa (kqt kq_refl q144.2 (by decide) (by decide)) rfl) rfl) rfl
      have B4 := mv_B_kq B4 (kqi (A := []) (F := [30]) (q := 30) (v := ps_i s144 1131 30 + 1) kq_refl rfl) (by decide) (by decide)
      refine fs_194 (T := T) (N := N) (p := (tx_tok T N p).2.2.1) (mv_T_kq HS.2.2.2.1 K4 (by decide) (by decide)) (mv_K_kq d2 K4 (by decide)).2.2.1 hok.2.1 (fun s185 q185 => ?_)
      obtain ⟨K5, k5⟩ := q185
      have K6 : kq [1144, 1145, 1146, 1147, 1148] [7, 8, 9, 10, 11, 29, 30] s s185 := kqt (kqt kq_refl K4 (by decide) (by decide)) K5 (by decide) (by decide)
      refine k _ (Or.inl ⟨_, _, _, _, hs, ⟨hok.2.1, ⟨by rw [List.length_cons]; omega, by show l.length + (0 + tx_due S) ≤ 40; omega⟩, k5, mv_B_kq B4 K5 (by decide) (by decide), ?_, ?_, mv_W_kq d6 K6 (by decide), mv_P_kq d7 K6 (by decide) (by decide), mv_G_kq d8 K6 (by decide) (by decide)⟩, mv_fr_tr F (mv_fr_kq K6 (by decide) (by decide))⟩)
      · rw [kq_i K5 30 (by decide)]
        show (ps_i s144 1131 30 + 1).toInt = ((tx_bs S).length + 1 : Nat)
        have hle : (tx_bs S).length ≤ S.length := tx_bs_le
        exact xj1 (by rw [kq_i q144.2 30 (by decide)]; exact d4) (by omega)
      · rw [kq_i K6 31 (by decide), d5]
        show ((l.length + tx_due S : Nat) : Int) = ((l.length + (0 + tx_due S) : Nat) : Int)
        omega
    · exact absurd h137 (by decide)
  · refine ⟨fun h137 => ?_, fun h137 => ?_⟩
    · exact absurd h137 (by decide)
    · exact absurd d8.1 q134

theorem mv_arr {s : ps_S} {rb : Nat} {E : tx_E} (h : mv_E s rb E.1) {tk : tx_K} {c : Nat} (hc : tx_pc E tk = some c) : c < 16 ∧ (c ≤ 6 ∨ 10 ≤ c) ∧ (10 ≤ c → (ps_a s 1138 (6 * rb + (c - 10))).toInt = (tx_ar E c : Nat)) := by
  obtain ⟨e1, e2, e3, e4, e5, e6⟩ := h
  unfold tx_pc at hc
  split at hc
  · split at hc
    · next hk =>
      cases hc
      exact ⟨by omega, Or.inl hk, fun z => by omega⟩
    · cases hc
  · split at hc
    · split at hc
      · next q hq =>
        cases hc
        obtain ⟨-, z2, z3, -⟩ := tx_ix_some hq
        rw [Nat.sub_zero] at z3
        unfold tx_R at z2 z3
        rw [List.length_map] at z2
        rw [List.getElem?_map] at z3
        obtain ⟨a, h1, h2⟩ := Option.map_eq_some_iff.mp z3
        obtain ⟨-, -, -, w4⟩ := e5 q a.1 a.2 h1
        refine ⟨by omega, Or.inr (by omega), fun _ => ?_⟩
        rw [show 10 + q - 10 = q from by omega, w4]
        unfold tx_ar tx_ra
        rw [if_neg (by omega), if_neg (by omega), if_neg (by omega), if_neg (by omega), show 10 + q - 10 = q from by omega, List.getD_eq_getElem?_getD, h1]
        rfl
      · cases hc
    · cases hc

theorem fm_214_88n {n : Nat} {rb to : Nat} {s : ps_S} {T : Nat → Nat} {N : Nat} {E : tx_E} {S : List tx_F} {p : Nat} {l : List Nat} {fr : List (List Nat)}{c : Nat} {x1 x2 x3 x4 x5 : Int32} {R : ps_S → Prop} (HS : mv_S rb s T N E) (HC : mv_C to s T N S p l fr) (hx1 : x1.toInt = to) (hx2 : x2.toInt = (3 : Nat)) (hx3 : x3.toInt = 1) (hx4 : x4.toInt = 0) (hx5 : x5.toInt = (2 : Nat)) (hn : (tx_tok T N p).1 = 3 ∧ (tx_tok T N p).2.2.2.2 = 7) (hS : S.length + 1 ≤ 12) (hl : l.length + tx_due S + 2 ≤ 40) (k : ∀ s', mv_res to s s' T N E (1, S, p, l, fr, 0) → R s') : pl_At n 214 88 [(0, .ref 1131), (1, .int x1), (2, .int x2), (3, .int x3), (4, .int x4), (5, .int x5)] [] s (ps_rV R) := by
  cases n with
  | zero => exact pl_At_0
  | succ n =>
  have hG := HC.2.2.2.2.2.2.2.2
  have hst := tx_s_not (T := T) (n := N) (E := E) (S := S) (p := p) (l := l) (fr := fr) rfl hn hS hl
  refine pl_214_88 ?_
  refine fm_192 (fun q89 => ?_) (fun q89 => ?_)
  · refine ⟨fun h92 => ?_, fun h92 => ?_⟩
    · refine mv_eg (q := 2) HS HC hx1 hx2 hx5 (by decide) (by omega) (fun s114 q114 => ?_)
      obtain ⟨HS1, D, F⟩ := q114
      have hB := D.2.2.1
      
      refine ⟨fun h119 => ?_, fun h119 => ?_⟩
      · have h119 : x4.toInt = (0 : Int) := xeq h119
        refine ⟨fun h193 => ?_, fun h193 => ?_⟩
        · have h193 : x3.toInt = (0 : Int) := xeq h193
          refine ⟨fun h201 => ?_, fun h201 => ?_⟩
          · have h201 : x2.toInt ≠ (0 : Int) := xne h201
            refine ⟨fun h211 => ?_, fun h211 => ?_⟩
            · have h211 : (10 : Int) ≤ x2.toInt := xle h211
              intro b234
              obtain ⟨b234, c234⟩ := pl_in b234
              refine ⟨fun h238 => ?_, fun h238 => ?_⟩
              · have h238 : x2.toInt < (6 : Int) := xlt h238
                exfalso; omega
              · have h238 : (6 : Int) ≤ x2.toInt := xle h238
                exfalso; omega
            · have h211 : x2.toInt < (10 : Int) := xlt h211
              refine ⟨fun h238 => ?_, fun h238 => ?_⟩
              · have h238 : x2.toInt < (6 : Int) := xlt h238
                exfalso; omega
              · have h238 : (6 : Int) ≤ x2.toInt := xle h238
                exfalso; omega
          · have h201 : x2.toInt = (0 : Int) := xeq h201
            refine ⟨fun h238 => ?_, fun h238 => ?_⟩
            · have h238 : x2.toInt < (6 : Int) := xlt h238
              exfalso; omega
            · have h238 : (6 : Int) ≤ x2.toInt := xle h238
              exfalso; omega
        · have h193 : x3.toInt ≠ (0 : Int) := xne h193
          refine ⟨fun h238 => ?_, fun h238 => ?_⟩
          · have h238 : x2.toInt < (6 : Int) := xlt h238
            refine fm_211 (m := 1) (b := true) rfl rfl hB (by omega) (fun s246 q246 => ?_)
            intro b260
            obtain ⟨b260, c260⟩ := pl_in b260
            have b1 : (ps_i s246 1131 29).toInt = (S.length + 1 : Nat) := q246.1.1
            have ei : (ps_i s246 1131 29 - 1).toInt = (S.length : Nat) := by
              have h1 : (1 : Int32).toInt = 1 := by decide
              rw [xIs (by omega) (by omega)]
              omega
            exact k _ (Or.inl ⟨_, _, _, _, hst, mv_D_push (nt := true) D (by omega) q246.1 q246.2 (xtn ei) hx3 (by rw [List.length_append]; show _ = l.length + 1 + _; show l.length + tx_due S + 2 = l.length + 1 + (1 + tx_due S); omega) (by omega), mv_fr_tr F (mv_fr_kq (kqa q246.2 rfl) (by decide) (by decide))⟩)
          · have h238 : (6 : Int) ≤ x2.toInt := xle h238
            exfalso; omega
      · have h119 : x4.toInt ≠ (0 : Int) := xne h119
        refine fm_208 HS1 D.1 D.2.1 (fun q123 => ?_) (fun q123 => ?_)
        · refine ⟨fun h126 => ?_, fun h126 => ?_⟩
          · exfalso; omega
          · exact absurd h126 (by decide)
        · refine ⟨fun h126 => ?_, fun h126 => ?_⟩
          · exact absurd h126 (by decide)
          · refine fm_196 D.2.2.2.2.2.2.2.1 D.2.1 (fun s130 q130 => ?_)
            exfalso; omega
    · exact absurd h92 (by decide)
  · refine ⟨fun h92 => ?_, fun h92 => ?_⟩
    · exact absurd h92 (by decide)
    · exact absurd hG.1 q89

theorem fm_214_88p {n : Nat} {rb to : Nat} {s : ps_S} {T : Nat → Nat} {N : Nat} {E : tx_E} {S : List tx_F} {p : Nat} {l : List Nat} {fr : List (List Nat)}{c : Nat} {x1 x2 x3 x4 x5 : Int32} {R : ps_S → Prop} (HS : mv_S rb s T N E) (HC : mv_C to s T N S p l fr) (hx1 : x1.toInt = to) (hx2 : x2.toInt = c) (hx3 : x3.toInt = 0) (hx4 : x4.toInt = 0) (hx5 : x5.toInt = (1 : Nat)) (hn : ¬ ((tx_tok T N p).1 = 3 ∧ (tx_tok T N p).2.2.2.2 = 7)) (hc : tx_pc E (tx_tok T N p) = some c) (h45 : ¬ (c = 4 ∨ c = 5)) (hS : S.length ≤ 12) (hl : l.length + tx_due S + 1 ≤ 40) (k : ∀ s', mv_res to s s' T N E (1, S, p, l, fr, 0) → R s') : pl_At n 214 88 [(0, .ref 1131), (1, .int x1), (2, .int x2), (3, .int x3), (4, .int x4), (5, .int x5)] [] s (ps_rV R) := by
  cases n with
  | zero => exact pl_At_0
  | succ n =>
  have hG := HC.2.2.2.2.2.2.2.2
  have hst := tx_s_piece (T := T) (n := N) (E := E) (S := S) (p := p) (l := l) (fr := fr) rfl hn hc hS hl h45
  obtain ⟨hc16, hc10, -⟩ := mv_arr HS.2.2.2.2 hc
  refine pl_214_88 ?_
  refine fm_192 (fun q89 => ?_) (fun q89 => ?_)
  · refine ⟨fun h92 => ?_, fun h92 => ?_⟩
    · refine mv_eg (q := 1) HS HC hx1 hx2 hx5 (by decide) (by omega) (fun s114 q114 => ?_)
      obtain ⟨HS1, D, F⟩ := q114
      have hB := D.2.2.1
      have e9 : (((6 : Int32) * (ps_i s114 1131 22)) + x2 - 10).toInt = (6 * rb + (c - 10) : Nat) ∨ c < 10 := by
        have c6 : (6 : Int32).toInt = 6 := by decide
        have c10 : (10 : Int32).toInt = 10 := by decide
        have hrb := HS1.1
        have m6 : ((6 : Int32) * (ps_i s114 1131 22)).toInt = 6 * rb := by rw [xm01 HS1.2.1 hrb, c6]
        have a6 : (((6 : Int32) * (ps_i s114 1131 22)) + x2).toInt = 6 * rb + c := by rw [xIa (by omega) (by omega)]; omega
        by_cases z : c < 10
        · exact Or.inr z
        · left
          rw [xIs (by omega) (by omega)]
          omega
      refine ⟨fun h119 => ?_, fun h119 => ?_⟩
      · have h119 : x4.toInt = (0 : Int) := xeq h119
        refine ⟨fun h193 => ?_, fun h193 => ?_⟩
        · have h193 : x3.toInt = (0 : Int) := xeq h193
          refine ⟨fun h201 => ?_, fun h201 => ?_⟩
          · have h201 : x2.toInt ≠ (0 : Int) := xne h201
            refine ⟨fun h211 => ?_, fun h211 => ?_⟩
            · have h211 : (10 : Int) ≤ x2.toInt := xle h211
              intro b234
              obtain ⟨b234, c234⟩ := pl_in b234
              refine ⟨fun h238 => ?_, fun h238 => ?_⟩
              · have h238 : x2.toInt < (6 : Int) := xlt h238
                exfalso; omega
              · have h238 : (6 : Int) ≤ x2.toInt := xle h238
                refine fm_211 (m := tx_ar E c) (b := decide (c < 6)) (by rw [xtn (e9.resolve_right (by omega))]; exact (mv_arr HS1.2.2.2.2 hc).2.2 (by omega)) (by rw [if_neg (by rw [decide_eq_false (by omega)]; decide)]; rfl) hB (by omega) (fun s246 q246 => ?_)
                intro b260
                obtain ⟨b260, c260⟩ := pl_in b260
                have b1 : (ps_i s246 1131 29).toInt = (S.length + 1 : Nat) := q246.1.1
                have ei : (ps_i s246 1131 29 - 1).toInt = (S.length : Nat) := by
                  have h1 : (1 : Int32).toInt = 1 := by decide
                  rw [xIs (by omega) (by omega)]
                  omega
                exact k _ (Or.inl ⟨_, _, _, _, hst, mv_D_push (nt := false) D hS q246.1 q246.2 (xtn ei) hx3 (by rw [List.length_append]; show _ = l.length + 1 + _; show l.length + tx_due S + 1 = l.length + 1 + (0 + tx_due S); omega) (by omega), mv_fr_tr F (mv_fr_kq (kqa q246.2 rfl) (by decide) (by decide))⟩)
            · have h211 : x2.toInt < (10 : Int) := xlt h211
              refine ⟨fun h238 => ?_, fun h238 => ?_⟩
              · have h238 : x2.toInt < (6 : Int) := xlt h238
                refine fm_211 (m := tx_ar E c) (b := decide (c < 6)) (by unfold tx_ar; rw [if_neg (by omega), if_pos (by omega)]; rfl) (by rw [if_pos (decide_eq_true (by omega))]; rfl) hB (by omega) (fun s246 q246 => ?_)
                intro b260
                obtain ⟨b260, c260⟩ := pl_in b260
                have b1 : (ps_i s246 1131 29).toInt = (S.length + 1 : Nat) := q246.1.1
                have ei : (ps_i s246 1131 29 - 1).toInt = (S.length : Nat) := by
                  have h1 : (1 : Int32).toInt = 1 := by decide
                  rw [xIs (by omega) (by omega)]
                  omega
                exact k _ (Or.inl ⟨_, _, _, _, hst, mv_D_push (nt := false) D hS q246.1 q246.2 (xtn ei) hx3 (by rw [List.length_append]; show _ = l.length + 1 + _; show l.length + tx_due S + 1 = l.length + 1 + (0 + tx_due S); omega) (by omega), mv_fr_tr F (mv_fr_kq (kqa q246.2 rfl) (by decide) (by decide))⟩)
              · have h238 : (6 : Int) ≤ x2.toInt := xle h238
                refine fm_211 (m := tx_ar E c) (b := decide (c < 6)) (by unfold tx_ar; rw [if_neg (by omega), if_neg (by omega), if_neg (by omega), if_pos (by omega)]; rfl) (by rw [if_neg (by rw [decide_eq_false (by omega)]; decide)]; rfl) hB (by omega) (fun s246 q246 => ?_)
                intro b260
                obtain ⟨b260, c260⟩ := pl_in b260
                have b1 : (ps_i s246 1131 29).toInt = (S.length + 1 : Nat) := q246.1.1
                have ei : (ps_i s246 1131 29 - 1).toInt = (S.length : Nat) := by
                  have h1 : (1 : Int32).toInt = 1 := by decide
                  rw [xIs (by omega) (by omega)]
                  omega
                exact k _ (Or.inl ⟨_, _, _, _, hst, mv_D_push (nt := false) D hS q246.1 q246.2 (xtn ei) hx3 (by rw [List.length_append]; show _ = l.length + 1 + _; show l.length + tx_due S + 1 = l.length + 1 + (0 + tx_due S); omega) (by omega), mv_fr_tr F (mv_fr_kq (kqa q246.2 rfl) (by decide) (by decide))⟩)
          · have h201 : x2.toInt = (0 : Int) := xeq h201
            refine ⟨fun h238 => ?_, fun h238 => ?_⟩
            · have h238 : x2.toInt < (6 : Int) := xlt h238
              refine fm_211 (m := tx_ar E c) (b := decide (c < 6)) (by unfold tx_ar; rw [if_pos (by omega)]; rfl) (by rw [if_pos (decide_eq_true (by omega))]; rfl) hB (by omega) (fun s246 q246 => ?_)
              intro b260
              obtain ⟨b260, c260⟩ := pl_in b260
              have b1 : (ps_i s246 1131 29).toInt = (S.length + 1 : Nat) := q246.1.1
              have ei : (ps_i s246 1131 29 - 1).toInt = (S.length : Nat) := by
                have h1 : (1 : Int32).toInt = 1 := by decide
                rw [xIs (by omega) (by omega)]
                omega
              exact k _ (Or.inl ⟨_, _, _, _, hst, mv_D_push (nt := false) D hS q246.1 q246.2 (xtn ei) hx3 (by rw [List.length_append]; show _ = l.length + 1 + _; show l.length + tx_due S + 1 = l.length + 1 + (0 + tx_due S); omega) (by omega), mv_fr_tr F (mv_fr_kq (kqa q246.2 rfl) (by decide) (by decide))⟩)
            · have h238 : (6 : Int) ≤ x2.toInt := xle h238
              exfalso; omega
        · have h193 : x3.toInt ≠ (0 : Int) := xne h193
          refine ⟨fun h238 => ?_, fun h238 => ?_⟩
          · have h238 : x2.toInt < (6 : Int) := xlt h238
            exfalso; omega
          · have h238 : (6 : Int) ≤ x2.toInt := xle h238
            exfalso; omega
      · have h119 : x4.toInt ≠ (0 : Int) := xne h119
        refine fm_208 HS1 D.1 D.2.1 (fun q123 => ?_) (fun q123 => ?_)
        · refine ⟨fun h126 => ?_, fun h126 => ?_⟩
          · exfalso; omega
          · exact absurd h126 (by decide)
        · refine ⟨fun h126 => ?_, fun h126 => ?_⟩
          · exact absurd h126 (by decide)
          · refine fm_196 D.2.2.2.2.2.2.2.1 D.2.1 (fun s130 q130 => ?_)
            exfalso; omega
    · exact absurd h92 (by decide)
  · refine ⟨fun h92 => ?_, fun h92 => ?_⟩
    · exact absurd h92 (by decide)
    · exact absurd hG.1 q89

theorem fm_214_88q {n : Nat} {rb to : Nat} {s : ps_S} {T : Nat → Nat} {N : Nat} {E : tx_E} {S : List tx_F} {p : Nat} {l : List Nat} {fr : List (List Nat)}{c : Nat} {x1 x2 x3 x4 x5 : Int32} {R : ps_S → Prop} (HS : mv_S rb s T N E) (HC : mv_C to s T N S p l fr) (hx1 : x1.toInt = to) (hx2 : x2.toInt = c) (hx3 : x3.toInt = 0) (hx4 : x4.toInt = 1) (hx5 : x5.toInt = (1 : Nat)) (hn : ¬ ((tx_tok T N p).1 = 3 ∧ (tx_tok T N p).2.2.2.2 = 7)) (hc : tx_pc E (tx_tok T N p) = some c) (h45 : c = 4 ∨ c = 5) (hS : S.length ≤ 12) (hl : l.length + tx_due S + 1 ≤ 40) (hq4 : (tx_bs S).length ≤ 4) (k : ∀ s', mv_res to s s' T N E (1, S, p, l, fr, 0) → R s') : pl_At n 214 88 [(0, .ref 1131), (1, .int x1), (2, .int x2), (3, .int x3), (4, .int x4), (5, .int x5)] [] s (ps_rV R) := by
  cases n with
  | zero => exact pl_At_0
  | succ n =>
  have hG := HC.2.2.2.2.2.2.2.2
  refine pl_214_88 ?_
  refine fm_192 (fun q89 => ?_) (fun q89 => ?_)
  · refine ⟨fun h92 => ?_, fun h92 => ?_⟩
    · refine mv_eg (q := 1) HS HC hx1 hx2 hx5 (by decide) (by omega) (fun s114 q114 => ?_)
      obtain ⟨HS1, D, F⟩ := q114
      have hB := D.2.2.1
      
      refine ⟨fun h119 => ?_, fun h119 => ?_⟩
      · have h119 : x4.toInt = (0 : Int) := xeq h119
        refine ⟨fun h193 => ?_, fun h193 => ?_⟩
        · have h193 : x3.toInt = (0 : Int) := xeq h193
          refine ⟨fun h201 => ?_, fun h201 => ?_⟩
          · have h201 : x2.toInt ≠ (0 : Int) := xne h201
            refine ⟨fun h211 => ?_, fun h211 => ?_⟩
            · have h211 : (10 : Int) ≤ x2.toInt := xle h211
              intro b234
              obtain ⟨b234, c234⟩ := pl_in b234
              refine ⟨fun h238 => ?_, fun h238 => ?_⟩
              · have h238 : x2.toInt < (6 : Int) := xlt h238
                exfalso; omega
              · have h238 : (6 : Int) ≤ x2.toInt := xle h238
                exfalso; omega
            · have h211 : x2.toInt < (10 : Int) := xlt h211
              refine ⟨fun h238 => ?_, fun h238 => ?_⟩
              · have h238 : x2.toInt < (6 : Int) := xlt h238
                exfalso; omega
              · have h238 : (6 : Int) ≤ x2.toInt := xle h238
                exfalso; omega
          · have h201 : x2.toInt = (0 : Int) := xeq h201
            refine ⟨fun h238 => ?_, fun h238 => ?_⟩
            · have h238 : x2.toInt < (6 : Int) := xlt h238
              exfalso; omega
            · have h238 : (6 : Int) ≤ x2.toInt := xle h238
              exfalso; omega
        · have h193 : x3.toInt ≠ (0 : Int) := xne h193
          refine ⟨fun h238 => ?_, fun h238 => ?_⟩
          · have h238 : x2.toInt < (6 : Int) := xlt h238
            exfalso; omega
          · have h238 : (6 : Int) ≤ x2.toInt := xle h238
            exfalso; omega
      · have h119 : x4.toInt ≠ (0 : Int) := xne h119
        refine fm_208 HS1 D.1 D.2.1 (fun q123 => ?_) (fun q123 => ?_)
        · refine ⟨fun h126 => ?_, fun h126 => ?_⟩
          · exact fm_214_133 HS1 (by have z := D; rw [show l.length + tx_due S + 1 = (l ++ [c]).length + tx_due S from by rw [List.length_append]; show _ = l.length + 1 + _; omega] at z; exact z) (by rw [List.length_append]; show l.length + 1 + _ ≤ 40; omega) hS q123.1 F (tx_s_q rfl hn hc hS hl h45 hq4 rfl q123) k
          · exact absurd h126 (by decide)
        · refine ⟨fun h126 => ?_, fun h126 => ?_⟩
          · exact absurd h126 (by decide)
          · refine fm_196 D.2.2.2.2.2.2.2.1 D.2.1 (fun s130 q130 => ?_)
            exact fm_214_133b (tx_s_qb rfl hn hc hS hl h45 hq4 rfl q123) (mv_bad_tr F (mv_bad_mis q130.1 q130.2.1 q130.2.2)) k
    · exact absurd h92 (by decide)
  · refine ⟨fun h92 => ?_, fun h92 => ?_⟩
    · exact absurd h92 (by decide)
    · exact absurd hG.1 q89

