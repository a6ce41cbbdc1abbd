set_option maxRecDepth 100000
/-! the class's reader: whole formulas, lines, theories -/
-- ProofBench$Row.clear()V
theorem pl_91_0 {n : Nat} {r0 : Nat} {s : ps_S} {Q : Option Value → ps_S → Prop} (h :
  pl_nk (ps_is r0 5) (pl_nk (ps_is r0 5) (Q none (ps_ui (ps_ui s r0 1 0) r0 2 0)))) : pl_At (n + 1) 91 0 [(0, .ref r0)] [] s Q :=
  pl_wp_at (stops := []) (f := 9) h rfl

def cWr (r q : Nat) : Prop := q = 902 ∨ q = 903 ∨ q = r ∨ q = r + 1 ∨ q = 906 ∨ q = 907
theorem fs_91 {n r : Nat} {s : ps_S} {R : ps_S → Prop} (k : R (ps_ui (ps_ui s r 1 0) r 2 0)) : pl_Cl n 91 [.ref r] s (ps_rV R) := by
  cases n with
  | zero => exact pl_At_0
  | succ n =>
  show pl_At (n + 1) 91 0 [(0, .ref r)] [] s (ps_rV R)
  refine pl_91_0 ?_
  refine pl_nk_i (fun nk2 => ?_)
  refine pl_nk_i (fun nk7 => ?_)
  exact k
theorem fs_62g {n : Nat} {s : ps_S} {tk : tx_K} {x1 : Int32} {K : Nat} {R : Int32 → ps_S → Prop} (hK : cv_K s tk) (hx : x1.toInt = K) (k : ∀ s', (ps_i s' 902 9).toInt = ((if tk.1 = 1 then 1 else K : Nat) : Int) ∧ (ps_i s' 902 10).toInt = tk.2.1 ∧ cfr (fun q => q = 902) s s' → R 0 s') : pl_Cl n 62 [.ref 902, .int x1] s (ps_rI R) := by
  cases n with
  | zero => exact pl_At_0
  | succ n =>
  show pl_At (n + 1) 62 0 [(0, .ref 902), (1, .int x1)] [] s (ps_rI R)
  have h4 := hK.1
  have h5 := hK.2.1
  refine pl_62_0 ?_
  refine ⟨fun h9 => ?_, fun h9 => ?_⟩
  · have h9 : (ps_i s 903 4).toInt ≠ (1 : Int) := xne h9
    refine k _ ⟨?_, h5, cfr_i (cfr_i cfr_refl rfl) rfl⟩
    rw [if_neg (by omega)]
    exact hx
  · have h9 : (ps_i s 903 4).toInt = (1 : Int) := xeq h9
    refine k _ ⟨?_, h5, cfr_i (cfr_i cfr_refl rfl) rfl⟩
    rw [if_pos (by omega)]
    rfl
theorem fs_65 {n : Nat} {s : ps_S} {T : Nat → Nat} {N p : Nat} {R : Int32 → ps_S → Prop} (hT : cv_T s T N) (hp : p ≤ N) (hK : cv_K s (tx_tok T N p)) (k1 : ∀ s', (tx_tok T N p).1 = 5 ∧ cv_A T N (tx_tok T N p).2.2.1 s s' → R 1 s') (k0 : ∀ s', (tx_tok T N p).1 ≠ 5 ∧ (ps_i s' 902 9).toInt = (tx_bk (tx_tok T N p) : Nat) ∧ (ps_i s' 902 10).toInt = (tx_tok T N p).2.1 ∧ cfr (fun q => q = 902) s s' → R 0 s') : pl_Cl n 65 [.ref 902] s (ps_rI R) := by
  cases n with
  | zero => exact pl_At_0
  | succ n =>
  show pl_At (n + 1) 65 0 [(0, .ref 902)] [] s (ps_rI R)
  have h4 := hK.1
  refine pl_65_0 ?_
  refine ⟨fun h8 => ?_, fun h8 => ?_⟩
  · have h8 : (ps_i s 903 4).toInt = (5 : Int) := xeq h8
    refine fs_140 hT hK.2.2.1 (tx_tok_ok (T := T) hp).2.1 (fun s21 q21 => ?_)
    exact k1 _ ⟨by omega, q21⟩
  · have h8 : (ps_i s 903 4).toInt ≠ (5 : Int) := xne h8
    refine fs_62g (K := 2) hK rfl (fun s13 q13 => ?_)
    refine pl_nk_i (fun z16 => ?_)
    exact k0 _ ⟨by omega, q13⟩

def cw_ok (th r ph : Nat) (s s' : ps_S) (T : Nat → Nat) (N : Nat) (E : tx_E) (p : Nat) (fr : List (List Nat)) : Prop := ∃ p' l' fr', gt_go (tx_st T N E) (ph, [], p, [], fr, 0) (2, [], p', l', fr', 0) ∧ cv_S th r s' T N E ∧ cv_C r s' T N [] p' l' fr' ∧ cfr (cWr r) s s'
def cw_bad (r ph : Nat) (s s' : ps_S) (T : Nat → Nat) (N : Nat) (E : tx_E) (p : Nat) (fr : List (List Nat)) : Prop := ∃ (S' : List tx_F) (pl : Nat) (l' : List Nat) (fr' : List (List Nat)) (k : Nat), gt_go (tx_st T N E) (ph, [], p, [], fr, 0) (4, S', pl, l', fr', k) ∧ (ps_i s' 902 9).toInt = k ∧ (ps_i s' 902 10).toInt = pl ∧ cfr (cWr r) s s'
theorem fs_69 {n th r ph : Nat} {s : ps_S} {T : Nat → Nat} {N : Nat} {E : tx_E} {p : Nat} {fr : List (List Nat)} {x2 : Int32} {R : Int32 → ps_S → Prop} (hph : (x2.toInt = 0 ∧ ph = 1) ∨ (x2.toInt ≠ 0 ∧ ph = 0)) (hth : th = 2 ∨ th = 26) (hr : ps_is r 5 = true) (h5 : ps_r s 902 5 = th) (h8 : (ps_i s 902 8).toInt = (if E.2 = true then 1 else 0)) (hT : cv_T s T N) (hE : cv_E s th E.1) (hp : p ≤ N) (hK : cv_K s (tx_tok T N p)) (hP : cv_P s fr) (hB : (ps_i s 902 4).toInt = 0) (hF : (ps_i s 902 9).toInt = 0 ∧ (ps_i s 902 10).toInt = -1) (k1 : ∀ s', cw_ok th r ph s s' T N E p fr → R 1 s') (k0 : ∀ s', cw_bad r ph s s' T N E p fr → R 0 s') : pl_Cl n 69 [.ref 902, .ref r, .int x2] s (ps_rI R) := by
  cases n with
  | zero => exact pl_At_0
  | succ n =>
  show pl_At (n + 1) 69 0 [(0, .ref 902), (1, .ref r), (2, .int x2)] [] s (ps_rI R)
  have n2 : 902 ≠ r := fun z => cv_ne hr cv_n5.1 z.symm
  have n3 : 903 ≠ r := fun z => cv_ne hr cv_n5.2.1 z.symm
  have HS0 : cv_S th r (ps_ur s 902 6 r) T N E := ⟨hth, hr, h5, rfl, h8, hT, hE⟩
  have F0 : cv_fr r (ps_ur s 902 6 r) (ps_ui (ps_ui (ps_ui (ps_ur s 902 6 r) r 1 0) r 2 0) 902 7 0) := cv_fr_i (cv_fr_w (cv_fr_w cv_fr_refl n2.symm) n2.symm) (by decide)
  have HS := cv_S_fr HS0 F0
  have C0 : cfr (cWr r) s (ps_ui (ps_ui (ps_ui (ps_ur s 902 6 r) r 1 0) r 2 0) 902 7 0) := cfr_i (cfr_i (cfr_i (cfr_r cfr_refl (Or.inl rfl)) (Or.inr (Or.inr (Or.inl rfl)))) (Or.inr (Or.inr (Or.inl rfl)))) (Or.inl rfl)
  have e : ∀ q f, q ≠ r → ¬ (q = 902 ∧ f = 7) → ps_i (ps_ui (ps_ui (ps_ui (ps_ur s 902 6 r) r 1 0) r 2 0) 902 7 0) q f = ps_i s q f := fun q f a b => by
    rw [ps_i_ui, if_neg b, ps_i_ui, if_neg (fun z => a z.1), ps_i_ui, if_neg (fun z => a z.1), ps_i_ur]
  have HC : cv_C r (ps_ui (ps_ui (ps_ui (ps_ur s 902 6 r) r 1 0) r 2 0) 902 7 0) T N [] p [] fr := by
    refine ⟨hp, ⟨Nat.zero_le _, Nat.zero_le _⟩, ?_, ⟨?_, ?_, Nat.zero_le _, fun k c hk => by cases hk⟩, ?_, ⟨?_, Nat.zero_le _, fun k c hk => by cases hk⟩, rfl, ?_, ?_⟩
    · unfold cv_K at *
      rw [e 903 _ n3 (by omega), e 903 _ n3 (by omega), e 903 _ n3 (by omega), e 903 _ n3 (by omega), e 903 _ n3 (by omega)]
      exact hK
    · rw [ps_i_ui, if_neg (fun z => n2 z.1.symm), ps_i_ui, if_neg (by omega), ps_i_ui, if_pos ⟨rfl, rfl⟩]
      rfl
    · rw [ps_i_ui, if_neg (fun z => n2 z.1.symm), ps_i_ui, if_pos ⟨rfl, rfl⟩]
    · unfold cv_P at *
      rw [e 902 2 n2 (by omega)]
      exact hP
    · rw [e 902 4 n2 (by omega)]
      exact hB
    · rw [e 902 9 n2 (by omega)]
      exact hF.1
    · rw [e 902 10 n2 (by omega)]
      exact hF.2
  refine pl_69_0 ?_
  refine fs_91 (r := r) ?_
  refine ⟨fun h18 => ?_, fun h18 => ?_⟩
  · have h18 : x2.toInt = (0 : Int) := xeq h18
    have hph : ph = 1 := by omega
    subst hph
    refine (cv_every T N E n).1 th r _ [] p [] fr _ 0 HS HC rfl (fun s31 q31 => ?_) (fun s31 q31 => ?_)
    · refine pl_nk_i (fun z34 => ?_)
      refine k1 _ ?_
      obtain ⟨p', l', fr', g1, g2, g3⟩ := q31
      exact ⟨p', l', fr', g1, cv_S_fr HS g3, g2, cfr_tr C0 (cfr_fr g3)⟩
    · refine pl_nk_i (fun z34 => ?_)
      refine k0 _ ?_
      obtain ⟨S', pl, l', fr', kk, g1, g2, g3, g4⟩ := q31
      exact ⟨S', pl, l', fr', kk, g1, g2, g3, cfr_tr C0 (cfr_fr g4)⟩
  · have h18 : x2.toInt ≠ (0 : Int) := xne h18
    have hph : ph = 0 := by omega
    subst hph
    refine (cv_every T N E n).2.1 th r _ [] p [] fr _ 0 HS HC rfl (fun s23 q23 => ?_) (fun s23 q23 => ?_)
    · refine pl_nk_i (fun z34 => ?_)
      refine k1 _ ?_
      obtain ⟨p', l', fr', g1, g2, g3⟩ := q23
      exact ⟨p', l', fr', g1, cv_S_fr HS g3, g2, cfr_tr C0 (cfr_fr g3)⟩
    · refine pl_nk_i (fun z34 => ?_)
      refine k0 _ ?_
      obtain ⟨S', pl, l', fr', kk, g1, g2, g3, g4⟩ := q23
      exact ⟨S', pl, l', fr', kk, g1, g2, g3, cfr_tr C0 (cfr_fr g4)⟩

theorem cv_L_ext {s s' : ps_S} {th : Nat} {T : Nat → Nat} {N : Nat} {h h' : tx_H} {p : Nat} (L : cv_L s th T N h p) (H : cv_H s' th h') (F : cfr (fun q => th ≤ q ∧ q < th + 24) s s') : cv_L s' th T N h' p := by
  obtain ⟨l1, l2, l3, l4, l5, l6, l7, l8⟩ := L
  have e2 := F 902 (fun z => by have z : th ≤ 902 ∧ 902 < th + 24 := z; omega)
  have e3 := F 903 (fun z => by have z : th ≤ 903 ∧ 903 < th + 24 := z; omega)
  refine ⟨l1, by rw [e2.2.2.1]; exact l2, cv_T_cfr l3 F (e3.2.2.1 1) (e3.1 2) (fun z => by have z : th ≤ 1 ∧ 1 < th + 24 := z; omega) (fun z => by have z : th ≤ 904 ∧ 904 < th + 24 := z; omega), H, l5, ?_, by rw [e2.1]; exact l7, by rw [e2.1, e2.1, e2.1]; exact l8⟩
  unfold cv_K at *
  rw [e3.1, e3.1, e3.1, e3.1, e3.1, e3.2.1]
  exact l6
theorem cv_HC_th {th : Nat} {s s' : ps_S} (h : cfr (fun q => th ≤ q ∧ q < th + 24) s s') : cfr (cv_HC th) s s' := cfr_mono h (fun q hq => Or.inl hq)
theorem cv_HC_fl {th : Nat} {s s' : ps_S} (h : cv_fl s s') : cfr (cv_HC th) s s' := cfr_mono (cfr_fl h) (fun q hq => Or.inr (Or.inr (Or.inl hq)))
theorem cv_HC_2 {th : Nat} {s s' : ps_S} (h : cfr (fun q => q = 902) s s') : cfr (cv_HC th) s s' := cfr_mono h (fun q hq => Or.inr (Or.inl hq))
theorem cv_HC_w {th m : Nat} {s s' : ps_S} (hm : m < 8) (h : cfr (cWr (th + 8 + 2 * m)) s s') : cfr (cv_HC th) s s' := cfr_mono h (fun q hq => by
  have hq : q = 902 ∨ q = 903 ∨ q = th + 8 + 2 * m ∨ q = th + 8 + 2 * m + 1 ∨ q = 906 ∨ q = 907 := hq
  show (th ≤ q ∧ q < th + 24) ∨ q = 902 ∨ q = 903 ∨ q = 906 ∨ q = 907
  omega)
/-- a line's end -/
theorem cl_semi {n th : Nat} {s0 s : ps_S} {T : Nat → Nat} {N : Nat} {h : tx_H} {p : Nat} {R : Int32 → ps_S → Prop} (L : cv_L s th T N h p) (F : cfr (cv_HC th) s0 s) (k1 : ∀ s', (tx_tok T N p).1 = 5 ∧ cv_L s' th T N h (tx_tok T N p).2.2.1 ∧ cfr (cv_HC th) s0 s' → R 1 s') (k0 : ∀ s', (tx_tok T N p).1 ≠ 5 ∧ (ps_i s' 902 9).toInt = (tx_bk (tx_tok T N p) : Nat) ∧ (ps_i s' 902 10).toInt = (tx_tok T N p).2.1 ∧ cfr (cv_HC th) s0 s' → R 0 s') : pl_Cl n 65 [.ref 902] s (ps_rI R) :=
  fs_65 L.2.2.1 L.2.2.2.2.1 L.2.2.2.2.2.1 (fun s' ⟨a, A⟩ => k1 s' ⟨a, cv_L_adv L (tx_tok_ok (T := T) L.2.2.2.2.1).2.1 A, cfr_tr F (cv_HC_fl A.1)⟩) (fun s' ⟨a, b1, b2, b3⟩ => k0 s' ⟨a, b1, b2, cfr_tr F (cv_HC_2 b3)⟩)
theorem tx_semi_ok {T : Nat → Nat} {N : Nat} {h : tx_H} {p : Nat} (e : (tx_tok T N p).1 = 5) : tx_semi T N h p = (0, h, (tx_tok T N p).2.2.1, 0) := by
  unfold tx_semi
  rw [if_pos e]
theorem tx_semi_no {T : Nat → Nat} {N : Nat} {h : tx_H} {p : Nat} (e : (tx_tok T N p).1 ≠ 5) : tx_semi T N h p = (4, h, (tx_tok T N p).2.1, tx_bk (tx_tok T N p)) := by
  unfold tx_semi
  rw [if_neg e]

theorem fs_133_b {n : Nat} {th a : Nat} {rel : Bool} {h : tx_H} {w : List Nat} {x1 x4 : Int32} {l2 : Int64} {s : ps_S} {R : ps_S → Prop} (hth : th = 2 ∨ th = 26) (H : cv_H s th h) (hx : x1.toInt = (if rel = true then 8 else 9)) (hlt : if rel = true then h.1.1.length < 6 else h.1.2.length < 4) (hw : tx_w w) (ha : a ≤ 2) (hl : l2 = tx_x w) (hx4 : x4.toInt = a) (h1 : tx_at (h.1.1.map Prod.fst) w = none) (h2 : tx_at (h.1.2.map Prod.fst) w = none) (k : ∀ s', cv_H s' th (if rel = true then ((h.1.1 ++ [(w, a)], h.1.2), h.2) else ((h.1.1, h.1.2 ++ [(w, a)]), h.2)) ∧ cfr (fun q => th ≤ q ∧ q < th + 24) s s' → R s') : pl_Cl n 133 [.ref th, .int x1, .long l2, .int x4] s (ps_rV R) := by
  cases rel with
  | true => exact fs_133_r hth H hx hlt hw ha hl hx4 h1 h2 k
  | false => exact fs_133_f hth H hx hlt hw ha hl hx4 h1 h2 k

theorem fs_63 {n th : Nat} {rel : Bool} {s : ps_S} {T : Nat → Nat} {N : Nat} {h : tx_H} {p : Nat} {x1 : Int32} {R : Int32 → ps_S → Prop} (L : cv_L s th T N h p) (hx : x1.toInt = (if rel = true then 8 else 9)) (hlt : if rel = true then h.1.1.length < 6 else h.1.2.length < 4) (k1 : ∀ s', cl_ok th s s' T N (tx_sym T N rel h p) → R 1 s') (k0 : ∀ s', cl_bad th s s' (tx_sym T N rel h p) → R 0 s') : pl_Cl n 63 [.ref 902, .int x1] s (ps_rI R) := by
  cases n with
  | zero => exact pl_At_0
  | succ n =>
  show pl_At (n + 1) 63 0 [(0, .ref 902), (1, .int x1)] [] s (ps_rI R)
  obtain ⟨l1, l2, l3, l4, l5, l6, l7, l8⟩ := id L
  have h4 := l6.1
  have hok := tx_tok_ok (T := T) l5
  unfold tx_sym at k1 k0
  dsimp only at k1 k0
  refine pl_63_0 ?_
  refine ⟨fun h8 => ?_, fun h8 => ?_⟩
  · have h8 : (ps_i s 903 4).toInt = (2 : Int) := xeq h8
    have h2 : (tx_tok T N p).1 = 2 := by omega
    rw [if_pos h2] at k1 k0
    have hw := hok.2.2.2.1 h2
    have hl := l6.2.2.2.1 h2
    rw [l2]
    refine fs_130 l1 l4.1 hw hl (fun q30 => ?_) (fun q30 => ?_)
    · refine ⟨fun h33 => ?_, fun h33 => ?_⟩
      · exact absurd h33 (by decide)
      · rw [if_neg q30] at k1 k0
        refine fs_62g (K := 3) l6 rfl (fun s38 q38 => ?_)
        refine pl_nk_i (fun z41 => ?_)
        exact k0 _ ⟨h, _, _, rfl, (by have z := q38.1; rw [if_neg (by omega)] at z; exact z), q38.2.1, cv_HC_2 q38.2.2⟩
    · refine ⟨fun h33 => ?_, fun h33 => ?_⟩
      · rw [if_pos q30] at k1 k0
        refine fs_140 l3 l6.2.2.1 hok.2.1 (fun s46 q46 => ?_)
        have L1 := cv_L_adv L hok.2.1 q46
        have F1 : cfr (cv_HC th) s s46 := cv_HC_fl q46.1
        have h14 := L1.2.2.2.2.2.1.1
        have hok1 := tx_tok_ok (T := T) L1.2.2.2.2.1
        refine ⟨fun h57 => ?_, fun h57 => ?_⟩
        · have h57 : (ps_i s46 903 4).toInt = (4 : Int) := xeq h57
          refine ⟨fun h78 => ?_, fun h78 => ?_⟩
          · have h78 : (ps_i s46 903 7).toInt ≤ (2 : Int) := xle h78
            rw [if_pos (by omega)] at k1 k0
            have hn2 := L1.2.2.2.2.2.1.2.2.2.2.2 (by omega)
            rw [if_pos (by omega)] at k1 k0
            refine fs_140 L1.2.2.1 L1.2.2.2.2.2.1.2.2.1 hok1.2.1 (fun s91 q91 => ?_)
            have L2 := cv_L_adv L1 hok1.2.1 q91
            have F2 : cfr (cv_HC th) s s91 := cfr_tr F1 (cv_HC_fl q91.1)
            refine cl_semi L2 F2 (fun s95 q95 => ?_) (fun s95 q95 => ?_)
            · obtain ⟨a0, L3, F3⟩ := q95
              rw [tx_semi_ok a0] at k1
              refine ⟨fun h98 => ?_, fun h98 => ?_⟩
              · rw [L3.2.1]
                refine fs_133_b l1 L3.2.2.2.1 hx hlt hw (by omega) hl hn2 q30.1 q30.2 (fun s111 q111 => ?_)
                exact k1 _ ⟨_, _, rfl, cv_L_ext L3 q111.1 q111.2, cfr_tr F3 (cv_HC_th q111.2)⟩
              · exact absurd h98 (by decide)
            · refine ⟨fun h98 => ?_, fun h98 => ?_⟩
              · exact absurd h98 (by decide)
              · obtain ⟨b0, b1, b2, b3⟩ := q95
                rw [tx_semi_no b0] at k0
                exact k0 _ ⟨_, _, _, rfl, b1, b2, b3⟩
          · have h78 : (2 : Int) < (ps_i s46 903 7).toInt := xlt h78
            rw [if_pos (by omega)] at k1 k0
            have hn2 := L1.2.2.2.2.2.1.2.2.2.2.2 (by omega)
            rw [if_neg (by omega)] at k1 k0
            refine fs_62g (K := 4) L1.2.2.2.2.2.1 rfl (fun s83 q83 => ?_)
            refine pl_nk_i (fun z86 => ?_)
            exact k0 _ ⟨h, _, _, rfl, (by have z := q83.1; rw [if_neg (by omega)] at z; exact z), q83.2.1, cfr_tr F1 (cv_HC_2 q83.2.2)⟩
        · have h57 : (ps_i s46 903 4).toInt ≠ (4 : Int) := xne h57
          rw [if_neg (by omega)] at k1 k0
          refine fs_62g (K := 2) L1.2.2.2.2.2.1 rfl (fun s62 q62 => ?_)
          refine pl_nk_i (fun z65 => ?_)
          exact k0 _ ⟨h, _, _, rfl, q62.1, q62.2.1, cfr_tr F1 (cv_HC_2 q62.2.2)⟩
      · exact absurd h33 (by decide)
  · have h8 : (ps_i s 903 4).toInt ≠ (2 : Int) := xne h8
    rw [if_neg (by omega)] at k1 k0
    refine fs_62g (K := 2) l6 rfl (fun s13 q13 => ?_)
    refine pl_nk_i (fun z16 => ?_)
    exact k0 _ ⟨h, _, _, rfl, q13.1, q13.2.1, cv_HC_2 q13.2.2⟩

theorem cv_wr {th m q : Nat} (h1 : th ≤ q) (h2 : q < th + 8 + 2 * m) (hth : th = 2 ∨ th = 26) (hm : m < 8) : ¬ cWr (th + 8 + 2 * m) q := fun z => by
  have z : q = 902 ∨ q = 903 ∨ q = th + 8 + 2 * m ∨ q = th + 8 + 2 * m + 1 ∨ q = 906 ∨ q = 907 := z
  omega
theorem fs_64 {n th : Nat} {s : ps_S} {T : Nat → Nat} {N : Nat} {h : tx_H} {p : Nat} {R : Int32 → ps_S → Prop} (L : cv_L s th T N h p) (hlt : h.2.length < 8) (k1 : ∀ s', cl_ok th s s' T N (tx_axm T N h p) → R 1 s') (k0 : ∀ s', cl_bad th s s' (tx_axm T N h p) → R 0 s') : pl_Cl n 64 [.ref 902] s (ps_rI R) := by
  cases n with
  | zero => exact pl_At_0
  | succ n =>
  show pl_At (n + 1) 64 0 [(0, .ref 902)] [] s (ps_rI R)
  obtain ⟨l1, l2, l3, l4, l5, l6, l7, l8⟩ := id L
  have h4 := l6.1
  have hok := tx_tok_ok (T := T) l5
  unfold tx_axm at k1 k0
  dsimp only at k1 k0
  refine pl_64_0 ?_
  refine ⟨fun h8 => ?_, fun h8 => ?_⟩
  · have h8 : (ps_i s 903 4).toInt = (2 : Int) := xeq h8
    have h2 : (tx_tok T N p).1 = 2 := by omega
    rw [if_pos h2] at k1 k0
    have hw := hok.2.2.2.1 h2
    have hl := l6.2.2.2.1 h2
    rw [l2]
    refine fs_129 l1 l4 hw hl (fun v30 q30 => ?_)
    refine ⟨fun h34 => ?_, fun h34 => ?_⟩
    · have h34 : v30.toInt = (-1 : Int) := xeq h34
      rw [if_pos ((tx_opt_m q30).mp h34)] at k1 k0
      refine fs_140 l3 l6.2.2.1 hok.2.1 (fun s47 q47 => ?_)
      have L1 := cv_L_adv L hok.2.1 q47
      have F1 : cfr (cv_HC th) s s47 := cv_HC_fl q47.1
      have F2 : cfr (cv_HC th) s (ps_ui s47 902 8 1) := cfr_i F1 (Or.inr (Or.inl rfl))
      have e8 : (ps_i (ps_ui s47 902 8 1) th 8).toInt = h.2.length := by
        rw [ps_i_ui, if_neg (by omega)]
        exact L1.2.2.2.1.2.1
      have hr := (cv_thr l1 hlt).2.2.2
      have F0 : cfr (fun q => q = 902) s47 (ps_ui s47 902 8 1) := cfr_i cfr_refl rfl
      have H1 : cv_H (ps_ui s47 902 8 1) th h := cv_H_cfr L1.2.2.2.1 F0 (fun q a b z => by have z : q = 902 := z; omega)
      refine pl_nk_i (fun nk64 => ?_)
      rw [show ps_r (ps_ui s47 902 8 1) 902 5 = th from L1.2.1]
      refine fs_135 l1 e8 hlt ?_
      refine fs_69 (s := ps_ui s47 902 8 1) (th := th) (r := th + 8 + 2 * h.2.length) (ph := 1) (E := (h.1, true)) (fr := []) (Or.inl ⟨rfl, rfl⟩) l1 hr L1.2.1 rfl L1.2.2.1 H1.1 L1.2.2.2.2.1 L1.2.2.2.2.2.1 ⟨L1.2.2.2.2.2.2.2.1, Nat.zero_le _, fun k w z => by cases z⟩ L1.2.2.2.2.2.2.1 L1.2.2.2.2.2.2.2.2 (fun s71 q71 => ?_) (fun s71 q71 => ?_)
      · obtain ⟨p', l', fr', g1, g2, g3, g4⟩ := q71
        have g5 := gt_trans g1 (gt_one (show tx_st T N (h.1, true) (2, [], p', l', fr', 0) = (3, [], p', l', fr', 0) from rfl))
        rw [gt_end_is g5 rfl] at k1 k0
        change ∀ s', cl_ok th s s' T N (tx_semi T N (h.1, h.2 ++ [((tx_tok T N p).2.2.2.1, l')]) p') → R 1 s' at k1
        change ∀ s', cl_bad th s s' (tx_semi T N (h.1, h.2 ++ [((tx_tok T N p).2.2.2.1, l')]) p') → R 0 s' at k0
        have hfr : fr' = [] := tx_go_fr (E := (h.1, true)) rfl g1
        have L3 : cv_L s71 th T N h p' := ⟨l1, g2.2.2.1, g2.2.2.2.2.2.1, cv_H_cfr H1 g4 (fun q a b => cv_wr a b l1 hlt), g3.1, g3.2.2.1, g3.2.2.2.2.2.1.1, (by have z := g3.2.2.2.2.1.1; rw [hfr] at z; exact z), g3.2.2.2.2.2.2.2⟩
        have F3 : cfr (cv_HC th) s s71 := cfr_tr F2 (cv_HC_w hlt g4)
        refine ⟨fun h74 => ?_, fun h74 => ?_⟩
        · exact absurd h74 (by decide)
        · refine fs_65 L3.2.2.1 L3.2.2.2.2.1 L3.2.2.2.2.2.1 (fun s78 q78 => ?_) (fun s78 q78 => ?_)
          · obtain ⟨a0, A4⟩ := q78
            rw [tx_semi_ok a0] at k1
            have L4 := cv_L_adv L3 (tx_tok_ok (T := T) L3.2.2.2.2.1).2.1 A4
            have F4 : cfr (cv_HC th) s s78 := cfr_tr F3 (cv_HC_fl A4.1)
            have W4 : cv_W s78 (th + 8 + 2 * h.2.length) l' := cv_W_cfr g3.2.2.2.1 (cfr_fl A4.1) (fun z => by have z : th + 8 + 2 * h.2.length = 903 := z; omega) (fun z => by have z : th + 8 + 2 * h.2.length + 1 = 903 := z; omega)
            refine ⟨fun h81 => ?_, fun h81 => ?_⟩
            · rw [L4.2.1]
              refine fs_134 l1 L4.2.2.2.1 hlt hw hl W4 (fun s91 q91 => ?_)
              exact k1 _ ⟨_, _, rfl, cv_L_ext L4 q91.1 q91.2, cfr_tr F4 (cv_HC_th q91.2)⟩
            · exact absurd h81 (by decide)
          · refine ⟨fun h81 => ?_, fun h81 => ?_⟩
            · exact absurd h81 (by decide)
            · obtain ⟨b0, b1, b2, b3⟩ := q78
              rw [tx_semi_no b0] at k0
              exact k0 _ ⟨_, _, _, rfl, b1, b2, cfr_tr F3 (cv_HC_2 b3)⟩
      · refine ⟨fun h74 => ?_, fun h74 => ?_⟩
        · obtain ⟨S', pl, l', fr', kk, g1, g2, g3, g4⟩ := q71
          rw [gt_end_is g1 rfl] at k0
          change ∀ s', cl_bad th s s' (4, h, pl, kk) → R 0 s' at k0
          exact k0 _ ⟨h, _, _, rfl, g2, g3, cfr_tr F2 (cv_HC_w hlt g4)⟩
        · exact absurd h74 (by decide)
    · have h34 : v30.toInt ≠ (-1 : Int) := xne h34
      rw [if_neg (fun z => h34 ((tx_opt_m q30).mpr z))] at k1 k0
      refine fs_62g (K := 3) l6 rfl (fun s39 q39 => ?_)
      refine pl_nk_i (fun z42 => ?_)
      exact k0 _ ⟨h, _, _, rfl, (by have z := q39.1; rw [if_neg (by omega)] at z; exact z), q39.2.1, cv_HC_2 q39.2.2⟩
  · have h8 : (ps_i s 903 4).toInt ≠ (2 : Int) := xne h8
    rw [if_neg (by omega)] at k1 k0
    refine fs_62g (K := 2) l6 rfl (fun s13 q13 => ?_)
    refine pl_nk_i (fun z16 => ?_)
    exact k0 _ ⟨h, _, _, rfl, q13.1, q13.2.1, cv_HC_2 q13.2.2⟩

theorem fs_139 {n : Nat} {s : ps_S} {T : Nat → Nat} {N : Nat} {x2 : Int32} {R : ps_S → Prop} (hx : x2.toInt = N) (hT : cv_T (ps_ui (ps_ui (ps_ur s 903 1 1) 903 2 x2) 903 3 0) T N) (k : ∀ s', cv_A T N 0 (ps_ui (ps_ui (ps_ur s 903 1 1) 903 2 x2) 903 3 0) s' → R s') : pl_Cl n 139 [.ref 903, .ref 1, .int x2] s (ps_rV R) := by
  cases n with
  | zero => exact pl_At_0
  | succ n =>
  show pl_At (n + 1) 139 0 [(0, .ref 903), (1, .ref 1), (2, .int x2)] [] s (ps_rV R)
  refine pl_139_0 ?_
  refine fs_140 (p := 0) hT rfl (Nat.zero_le _) (fun s16 q16 => ?_)
  exact k _ q16
/-- how Reader.begin leaves the reader -/
def cv_b0 (s : ps_S) (th : Nat) (x2 : Int32) : ps_S := ps_ui (ps_ui (ps_ur (ps_ui (ps_ui (ps_ui (ps_ui (ps_ui (ps_ur s 902 5 th) 902 2 0) 902 4 0) 902 8 0) 902 9 0) 902 10 (-1)) 903 1 1) 903 2 x2) 903 3 0
theorem fs_61 {n th : Nat} {s : ps_S} {T : Nat → Nat} {N : Nat} {x2 : Int32} {R : ps_S → Prop} (hx : x2.toInt = N) (hT : cv_T (cv_b0 s th x2) T N) (k : ∀ s', cv_A T N 0 (cv_b0 s th x2) s' → R s') : pl_Cl n 61 [.ref 902, .ref 1, .int x2, .ref th] s (ps_rV R) := by
  cases n with
  | zero => exact pl_At_0
  | succ n =>
  show pl_At (n + 1) 61 0 [(0, .ref 902), (1, .ref 1), (2, .int x2), (3, .ref th)] [] s (ps_rV R)
  refine pl_61_0 ?_
  refine fs_139 hx hT (fun s36 q36 => ?_)
  exact k _ q36

theorem cv_58_77 {n th : Nat} {s0 s : ps_S} {T : Nat → Nat} {N : Nat} {h : tx_H} {p : Nat} {R : Int32 → ps_S → Prop} (L : cv_L s th T N h p) (F : cfr (cv_HC th) s0 s) (k0 : ∀ s', cl_bad th s0 s' (4, h, (tx_tok T N p).2.1, tx_bk (tx_tok T N p)) → R 0 s') : pl_At n 58 77 [(0, .ref 902)] [] s (ps_rI R) := by
  cases n with
  | zero => exact pl_At_0
  | succ n =>
  refine pl_58_77 ?_
  refine fs_62g (K := 2) L.2.2.2.2.2.1 rfl (fun s79 q79 => ?_)
  refine pl_nk_i (fun z82 => ?_)
  exact k0 _ ⟨_, _, _, rfl, q79.1, q79.2.1, cfr_tr F (cv_HC_2 q79.2.2)⟩
def ct_ok (th : Nat) (s s' : ps_S) (T : Nat → Nat) (N : Nat) (c0 : tx_D4) : Prop := ∃ h p, gt_go (tx_ln T N) c0 (3, h, p, 0) ∧ cv_L s' th T N h p ∧ cfr (cv_HC th) s s'
def ct_bad (th : Nat) (s s' : ps_S) (T : Nat → Nat) (N : Nat) (c0 : tx_D4) : Prop := ∃ (h : tx_H) (pl k : Nat), gt_go (tx_ln T N) c0 (4, h, pl, k) ∧ (ps_i s' 902 9).toInt = k ∧ (ps_i s' 902 10).toInt = pl ∧ cfr (cv_HC th) s s'
theorem tx_l_end {T : Nat → Nat} {N : Nat} {h : tx_H} {p : Nat} (e : (tx_tok T N p).1 = 0) : tx_ln T N (0, h, p, 0) = (3, h, p, 0) := by
  show tx_lb T N h p = _
  unfold tx_lb
  rw [if_pos e]
theorem tx_l_rel {T : Nat → Nat} {N : Nat} {h : tx_H} {p : Nat} (e : (tx_tok T N p).1 = 3) (e2 : (tx_tok T N p).2.2.2.2 = 8) (e3 : h.1.1.length < 6) : tx_ln T N (0, h, p, 0) = tx_sym T N true h (tx_tok T N p).2.2.1 := by
  show tx_lb T N h p = _
  unfold tx_lb
  rw [if_neg (by omega), if_pos ⟨e, e2, e3⟩]
theorem tx_l_fun {T : Nat → Nat} {N : Nat} {h : tx_H} {p : Nat} (e : (tx_tok T N p).1 = 3) (e2 : (tx_tok T N p).2.2.2.2 = 9) (e3 : h.1.2.length < 4) : tx_ln T N (0, h, p, 0) = tx_sym T N false h (tx_tok T N p).2.2.1 := by
  show tx_lb T N h p = _
  unfold tx_lb
  rw [if_neg (by omega), if_neg (by omega), if_pos ⟨e, e2, e3⟩]
theorem tx_l_axm {T : Nat → Nat} {N : Nat} {h : tx_H} {p : Nat} (e : (tx_tok T N p).1 = 3) (e2 : (tx_tok T N p).2.2.2.2 = 10) (e3 : h.2.length < 8) : tx_ln T N (0, h, p, 0) = tx_axm T N h (tx_tok T N p).2.2.1 := by
  show tx_lb T N h p = _
  unfold tx_lb
  rw [if_neg (by omega), if_neg (by omega), if_neg (by omega), if_pos ⟨e, e2, e3⟩]
theorem tx_l_bad {T : Nat → Nat} {N : Nat} {h : tx_H} {p : Nat} (e : (tx_tok T N p).1 ≠ 0) (e2 : ¬ ((tx_tok T N p).1 = 3 ∧ (((tx_tok T N p).2.2.2.2 = 8 ∧ h.1.1.length < 6) ∨ ((tx_tok T N p).2.2.2.2 = 9 ∧ h.1.2.length < 4) ∨ ((tx_tok T N p).2.2.2.2 = 10 ∧ h.2.length < 8)))) : tx_ln T N (0, h, p, 0) = (4, h, (tx_tok T N p).2.1, tx_bk (tx_tok T N p)) := by
  show tx_lb T N h p = _
  unfold tx_lb
  rw [if_neg e, if_neg (by omega), if_neg (by omega), if_neg (by omega)]

theorem tx_semi_h {T : Nat → Nat} {N : Nat} {h h' : tx_H} {p p' : Nat} (e : tx_semi T N h p = (0, h', p', 0)) : h' = h := by
  unfold tx_semi at e
  split at e
  · cases e; rfl
  · cases e
theorem tx_sym_len {T : Nat → Nat} {N : Nat} {rel : Bool} {h h' : tx_H} {p p' i : Nat} (e : tx_sym T N rel h p = (0, h', p', 0)) (hi : i = h.1.1.length + h.1.2.length + h.2.length) : h'.1.1.length + h'.1.2.length + h'.2.length = i + 1 := by
  unfold tx_sym at e
  dsimp only at e
  split at e
  · split at e
    · split at e
      · split at e
        · have e2 := tx_semi_h e
          cases rel with
          | true =>
            rw [if_pos rfl] at e2
            rw [e2, List.length_append]
            show h.1.1.length + 1 + h.1.2.length + h.2.length = i + 1
            omega
          | false =>
            rw [if_neg (by decide)] at e2
            rw [e2, List.length_append]
            show h.1.1.length + (h.1.2.length + 1) + h.2.length = i + 1
            omega
        · cases e
      · cases e
    · cases e
  · cases e
theorem tx_axm_len {T : Nat → Nat} {N : Nat} {h h' : tx_H} {p p' i : Nat} (e : tx_axm T N h p = (0, h', p', 0)) (hi : i = h.1.1.length + h.1.2.length + h.2.length) : h'.1.1.length + h'.1.2.length + h'.2.length = i + 1 := by
  unfold tx_axm at e
  dsimp only at e
  split at e
  · split at e
    · split at e
      · cases e
      · have e2 := tx_semi_h e
        rw [e2, List.length_append]
        show h.1.1.length + h.1.2.length + (h.2.length + 1) = i + 1
        omega
    · cases e
  · cases e

theorem cv_58_65 {T : Nat → Nat} {N th : Nat} {s0 : ps_S} {R : Int32 → ps_S → Prop} {c0 : tx_D4} {x4 : Int32} (hx4 : x4.toInt = 19) (k1 : ∀ s', ct_ok th s0 s' T N c0 → R 1 s') (k0 : ∀ s', ct_bad th s0 s' T N c0 → R 0 s') (n : Nat) (IH : ∀ {s : ps_S} {x5 : Int32} {i : Nat} {h : tx_H} {p : Nat}, cv_L s th T N h p → cfr (cv_HC th) s0 s → x5.toInt = i → i = h.1.1.length + h.1.2.length + h.2.length → gt_go (tx_ln T N) c0 (0, h, p, 0) → ∀ m, m ≤ n → pl_At m 58 18 [(0, .ref 902), (4, .int x4), (5, .int x5)] [] s (ps_rI R)) {s : ps_S} {x5 x6 : Int32} {i q : Nat} {h : tx_H} {p : Nat} (L : cv_L s th T N h p) (F : cfr (cv_HC th) s0 s) (hx5 : x5.toInt = i) (hi : i = h.1.1.length + h.1.2.length + h.2.length) (hg : gt_go (tx_ln T N) c0 (0, h, p, 0)) (hx6 : x6.toInt = q) (hq : (tx_tok T N p).1 = 3 ∧ (tx_tok T N p).2.2.2.2 = q ∧ (q = 8 ∨ q = 9 ∨ q = 10)) : pl_At (n + 1) 58 65 [(0, .ref 902), (4, .int x4), (5, .int x5), (6, .int x6)] [] s (ps_rI R) := by
  have hok := tx_tok_ok (T := T) L.2.2.2.2.1
  have H := L.2.2.2.1
  have b1 := H.1.2.2.1
  have b2 := H.1.2.2.2.1
  have b3 := H.2.2.1
  refine pl_58_65 ?_
  rw [L.2.1]
  refine fs_132 H (fun q71 => ?_) (fun q71 => ?_)
  · refine ⟨fun h74 => ?_, fun h74 => ?_⟩
    · exact absurd h74 (by decide)
    · exact cv_58_77 L F (fun s' b => by
        obtain ⟨h', pl, kk, e1, f1, f2, f3⟩ := b
        exact k0 s' ⟨h', pl, kk, gt_trans hg (gt_one ((tx_l_bad (by omega) (by omega)).trans e1)), f1, f2, f3⟩)
  · refine ⟨fun h74 => ?_, fun h74 => ?_⟩
    · refine fs_140 L.2.2.1 L.2.2.2.2.2.1.2.2.1 hok.2.1 (fun s87 q87 => ?_)
      have L1 := cv_L_adv L hok.2.1 q87
      have F1 : cfr (cv_HC th) s0 s87 := cfr_tr F (cv_HC_fl q87.1)
      refine ⟨fun h94 => ?_, fun h94 => ?_⟩
      · have h94 : x6.toInt ≠ (10 : Int) := xne h94
        obtain ⟨rel, hrx, hrl, hst⟩ : ∃ rel : Bool, x6.toInt = (if rel = true then 8 else 9) ∧ (if rel = true then h.1.1.length < 6 else h.1.2.length < 4) ∧ tx_ln T N (0, h, p, 0) = tx_sym T N rel h (tx_tok T N p).2.2.1 := by
          rcases (show q = 8 ∨ q = 9 from by omega) with z | z
          · exact ⟨true, by rw [hx6, z]; rfl, show h.1.1.length < 6 from by omega, tx_l_rel hq.1 (hq.2.1.trans z) (by omega)⟩
          · exact ⟨false, by rw [hx6, z]; rfl, show h.1.2.length < 4 from by omega, tx_l_fun hq.1 (hq.2.1.trans z) (by omega)⟩
        refine fs_63 L1 hrx hrl (fun s110 q110 => ?_) (fun s110 q110 => ?_)
        · refine ⟨fun h113 => ?_, fun h113 => ?_⟩
          · obtain ⟨h', p', e1, L2, F2⟩ := q110
            have hd : h'.1.1.length + h'.1.2.length + h'.2.length = i + 1 := tx_sym_len e1 hi
            exact IH L2 (cfr_tr F1 F2) (xj1 hx5 (by omega)) hd.symm (gt_trans hg (gt_one (hst.trans e1))) n (Nat.le_refl n)
          · exact absurd h113 (by decide)
        · refine ⟨fun h113 => ?_, fun h113 => ?_⟩
          · exact absurd h113 (by decide)
          · obtain ⟨h', pl, kk, e1, f1, f2, f3⟩ := q110
            exact k0 _ ⟨h', pl, kk, gt_trans hg (gt_one (hst.trans e1)), f1, f2, cfr_tr F1 f3⟩
      · have h94 : x6.toInt = (10 : Int) := xeq h94
        have hq10 : q = 10 := by omega
        have hst := tx_l_axm (T := T) (N := N) (h := h) hq.1 (hq.2.1.trans hq10) (by omega)
        refine fs_64 (h := h) L1 (by omega) (fun s98 q98 => ?_) (fun s98 q98 => ?_)
        · refine ⟨fun h101 => ?_, fun h101 => ?_⟩
          · exact absurd h101 (by decide)
          · obtain ⟨h', p', e1, L2, F2⟩ := q98
            have hd : h'.1.1.length + h'.1.2.length + h'.2.length = i + 1 := tx_axm_len e1 hi
            exact IH L2 (cfr_tr F1 F2) (xj1 hx5 (by omega)) hd.symm (gt_trans hg (gt_one (hst.trans e1))) n (Nat.le_refl n)
        · refine ⟨fun h101 => ?_, fun h101 => ?_⟩
          · obtain ⟨h', pl, kk, e1, f1, f2, f3⟩ := q98
            exact k0 _ ⟨h', pl, kk, gt_trans hg (gt_one (hst.trans e1)), f1, f2, cfr_tr F1 f3⟩
          · exact absurd h101 (by decide)
    · exact absurd h74 (by decide)

theorem cv_58_18 {T : Nat → Nat} {N th : Nat} {s0 : ps_S} {R : Int32 → ps_S → Prop} {c0 : tx_D4} {x4 : Int32} (hx4 : x4.toInt = 19) (k1 : ∀ s', ct_ok th s0 s' T N c0 → R 1 s') (k0 : ∀ s', ct_bad th s0 s' T N c0 → R 0 s') : ∀ (n : Nat) {s : ps_S} {x5 : Int32} {i : Nat} {h : tx_H} {p : Nat}, cv_L s th T N h p → cfr (cv_HC th) s0 s → x5.toInt = i → i = h.1.1.length + h.1.2.length + h.2.length → gt_go (tx_ln T N) c0 (0, h, p, 0) → ∀ m, m ≤ n → pl_At m 58 18 [(0, .ref 902), (4, .int x4), (5, .int x5)] [] s (ps_rI R)
  | 0, _, _, _, _, _, _, _, _, _, _, m, hm => by
    rw [Nat.le_zero.mp hm]
    exact pl_At_0
  | n + 1, s, x5, i, h, p, L, F, hx5, hi, hg, m, hm => by
    cases m with
    | zero => exact pl_At_0
    | succ m =>
    have H := L.2.2.2.1
    have HK := L.2.2.2.2.2.1
    have h4 := HK.1
    have h6 := HK.2.2.2.2.1
    have b1 := H.1.2.2.1
    have b2 := H.1.2.2.2.1
    have b3 := H.2.2.1
    have k3 : 0 ≤ (ps_i s 903 6).toInt → (tx_tok T N p).1 = 3 ∧ (ps_i s 903 6).toInt = (tx_tok T N p).2.2.2.2 := fun z => by
      by_cases y : (tx_tok T N p).1 = 3
      · rw [if_pos y] at h6
        exact ⟨y, h6⟩
      · rw [if_neg y] at h6
        omega
    have to65 : ∀ q : Nat, (ps_i s 903 6).toInt = q → (q = 8 ∨ q = 9 ∨ q = 10) → pl_At m 58 65 [(0, .ref 902), (4, .int x4), (5, .int x5), (6, .int (ps_i s 903 6))] [] s (ps_rI R) := fun q hq h8 => by
      cases m with
      | zero => exact pl_At_0
      | succ m =>
      obtain ⟨y1, y2⟩ := k3 (by omega)
      exact cv_58_65 hx4 k1 k0 m (fun L F hx5 hi hg m' hm' => cv_58_18 hx4 k1 k0 n L F hx5 hi hg m' (by omega)) L F hx5 hi hg hq ⟨y1, by omega, h8⟩
    refine pl_58_18 ?_
    refine ⟨fun h22 => ?_, fun h22 => ?_⟩
    · have h22 : x4.toInt ≤ x5.toInt := xle h22
      exfalso; omega
    · have h22 : x5.toInt < x4.toInt := xlt h22
      refine ⟨fun h32 => ?_, fun h32 => ?_⟩
      · have h32 : (ps_i s 903 4).toInt = (0 : Int) := xeq h32
        exact k1 _ ⟨h, p, gt_trans hg (gt_one (tx_l_end (by omega))), L, F⟩
      · have h32 : (ps_i s 903 4).toInt ≠ (0 : Int) := xne h32
        refine ⟨fun h48 => ?_, fun h48 => ?_⟩
        · have h48 : (ps_i s 903 6).toInt = (8 : Int) := xeq h48
          exact to65 8 h48 (by decide)
        · have h48 : (ps_i s 903 6).toInt ≠ (8 : Int) := xne h48
          refine ⟨fun h55 => ?_, fun h55 => ?_⟩
          · have h55 : (ps_i s 903 6).toInt = (9 : Int) := xeq h55
            exact to65 9 h55 (by decide)
          · have h55 : (ps_i s 903 6).toInt ≠ (9 : Int) := xne h55
            refine ⟨fun h62 => ?_, fun h62 => ?_⟩
            · have h62 : (ps_i s 903 6).toInt ≠ (10 : Int) := xne h62
              exact cv_58_77 L F (fun s' b => by
                obtain ⟨h', pl, kk, e1, f1, f2, f3⟩ := b
                refine k0 s' ⟨h', pl, kk, gt_trans hg (gt_one ((tx_l_bad (by omega) (fun z => ?_)).trans e1)), f1, f2, f3⟩
                rw [if_pos z.1] at h6
                omega)
            · have h62 : (ps_i s 903 6).toInt = (10 : Int) := xeq h62
              exact to65 10 h62 (by decide)

/-- what stands fixed of a theory's cells between two readings -/
def cv_base (s : ps_S) (th : Nat) : Prop := (ps_a s (th + 4) 0).toInt = 0 ∧ (ps_a s (th + 4) 1).toInt = 2 ∧ (ps_a s (th + 4) 2).toInt = 2 ∧ (ps_a s (th + 4) 3).toInt = 2 ∧ (ps_a s (th + 4) 4).toInt = 1 ∧ (ps_a s (th + 4) 5).toInt = 1 ∧ (ps_a s (th + 4) 6).toInt = 2
theorem fs_58 {n th : Nat} {s : ps_S} {T : Nat → Nat} {N : Nat} {x2 : Int32} {R : Int32 → ps_S → Prop} (hth : th = 2 ∨ th = 26) (hb : cv_base s th) (hx : x2.toInt = N) (hN : N ≤ 1600) (hT : ∀ k, k < N → (ps_a s 1 k &&& 255).toInt = T k) (hkw : ∀ (k : Nat) (w : List Nat), tx_keys[k]? = some w → ps_b s 904 k = tx_x w) (k1 : ∀ s', ct_ok th s s' T N (0, (([], []), []), 0, 0) → R 1 s') (k0 : ∀ s', ct_bad th s s' T N (0, (([], []), []), 0, 0) → R 0 s') : pl_Cl n 58 [.ref 902, .ref 1, .int x2, .ref th] s (ps_rI R) := by
  cases n with
  | zero => exact pl_At_0
  | succ n =>
  show pl_At (n + 1) 58 0 [(0, .ref 902), (1, .ref 1), (2, .int x2), (3, .ref th)] [] s (ps_rI R)
  have C1 : cfr (cv_HC th) s (ps_ui (ps_ui (ps_ui s th 6 0) th 7 0) th 8 0) := cfr_i (cfr_i (cfr_i cfr_refl cv_HCth) cv_HCth) cv_HCth
  have C2 : cfr (cv_HC th) (ps_ui (ps_ui (ps_ui s th 6 0) th 7 0) th 8 0) (cv_b0 (ps_ui (ps_ui (ps_ui s th 6 0) th 7 0) th 8 0) th x2) := by
    have h2 : cv_HC th 902 := Or.inr (Or.inl rfl)
    have h3 : cv_HC th 903 := Or.inr (Or.inr (Or.inl rfl))
    exact cfr_i (cfr_i (cfr_r (cfr_i (cfr_i (cfr_i (cfr_i (cfr_i (cfr_r cfr_refl h2) h2) h2) h2) h2) h2) h3) h3) h3
  have hT0 : cv_T (cv_b0 (ps_ui (ps_ui (ps_ui s th 6 0) th 7 0) th 8 0) th x2) T N := ⟨rfl, hx, hN, hT, hkw⟩
  have e : ∀ f, ps_i (cv_b0 (ps_ui (ps_ui (ps_ui s th 6 0) th 7 0) th 8 0) th x2) th f = ps_i (ps_ui (ps_ui (ps_ui s th 6 0) th 7 0) th 8 0) th f := fun f => by
    unfold cv_b0
    rw [ps_i_ui, if_neg (by omega), ps_i_ui, if_neg (by omega), ps_i_ur, ps_i_ui, if_neg (by omega), ps_i_ui, if_neg (by omega), ps_i_ui, if_neg (by omega), ps_i_ui, if_neg (by omega), ps_i_ui, if_neg (by omega), ps_i_ur]
  have e6 : (ps_i (ps_ui (ps_ui (ps_ui s th 6 0) th 7 0) th 8 0) th 6).toInt = 0 := by
    rw [ps_i_ui, if_neg (by omega), ps_i_ui, if_neg (by omega), ps_i_ui, if_pos ⟨rfl, rfl⟩]
    rfl
  have e7 : (ps_i (ps_ui (ps_ui (ps_ui s th 6 0) th 7 0) th 8 0) th 7).toInt = 0 := by
    rw [ps_i_ui, if_neg (by omega), ps_i_ui, if_pos ⟨rfl, rfl⟩]
    rfl
  have e8 : (ps_i (ps_ui (ps_ui (ps_ui s th 6 0) th 7 0) th 8 0) th 8).toInt = 0 := by
    rw [ps_i_ui, if_pos ⟨rfl, rfl⟩]
    rfl
  have H0 : cv_H (cv_b0 (ps_ui (ps_ui (ps_ui s th 6 0) th 7 0) th 8 0) th x2) th (([], []), []) := by
    refine ⟨⟨by rw [e]; exact e6, by rw [e]; exact e7, Nat.zero_le _, Nat.zero_le _, (fun k w a hk => by cases hk), (fun k w a hk => by cases hk), hb, (fun w m1 _ => by cases m1)⟩, by rw [e]; exact e8, Nat.zero_le _, fun k w l hk => by cases hk⟩
  refine pl_58_0 ?_
  refine fs_126 (th := th) ?_
  refine fs_61 hx hT0 (fun s8 q8 => ?_)
  have F := cfr_fl q8.1
  have L : cv_L s8 th T N (([], []), []) 0 := ⟨hth, by rw [q8.1.2.2.1]; rfl, cv_T_fl hT0 q8.1, cv_H_cfr H0 F (fun q a b z => by have z : q = 903 := z; have b : q < th + 8 + 2 * 0 := b; omega), Nat.zero_le _, q8.2, by rw [(F 902 (by decide)).1]; rfl, by rw [(F 902 (by decide)).1]; rfl, by rw [(F 902 (by decide)).1]; rfl, by rw [(F 902 (by decide)).1]; rfl⟩
  exact cv_58_18 (T := T) (N := N) (th := th) (s0 := s) (c0 := (0, (([], []), []), 0, 0)) rfl k1 k0 n (i := 0) L (cfr_tr C1 (cfr_tr C2 (cv_HC_fl q8.1))) rfl rfl gt_refl n (Nat.le_refl n)

