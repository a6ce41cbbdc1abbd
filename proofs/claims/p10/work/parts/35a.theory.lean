/-! the class's theory while its text is read -/
/-- cells other than those of C are the same -/
def cfr (C : Nat → Prop) (s s' : ps_S) : Prop := ∀ q, ¬ C q → (∀ f, ps_i s' q f = ps_i s q f) ∧ (∀ f, ps_j s' q f = ps_j s q f) ∧ (∀ f, ps_r s' q f = ps_r s q f) ∧ ps_a s' q = ps_a s q ∧ ps_b s' q = ps_b s q
theorem cfr_refl {C : Nat → Prop} {s : ps_S} : cfr C s s := fun _ _ => ⟨fun _ => rfl, fun _ => rfl, fun _ => rfl, rfl, rfl⟩
theorem cfr_tr {C : Nat → Prop} {s s1 s2 : ps_S} (h : cfr C s s1) (g : cfr C s1 s2) : cfr C s s2 := fun q hq => by
  obtain ⟨a1, a2, a3, a4, a5⟩ := h q hq
  obtain ⟨b1, b2, b3, b4, b5⟩ := g q hq
  exact ⟨fun f => (b1 f).trans (a1 f), fun f => (b2 f).trans (a2 f), fun f => (b3 f).trans (a3 f), b4.trans a4, b5.trans a5⟩
theorem cfr_mono {C C' : Nat → Prop} {s s' : ps_S} (h : cfr C s s') (k : ∀ q, C q → C' q) : cfr C' s s' := fun q hq => h q (fun z => hq (k q z))
theorem cfr_i {C : Nat → Prop} {s s' : ps_S} {r f : Nat} {v : Int32} (h : cfr C s s') (hr : C r) : cfr C s (ps_ui s' r f v) := fun q hq => by
  obtain ⟨a1, a2, a3, a4, a5⟩ := h q hq
  refine ⟨fun g => ?_, a2, a3, a4, a5⟩
  rw [ps_i_ui, if_neg (fun z => hq (by rw [z.1]; exact hr))]
  exact a1 g
theorem cfr_j {C : Nat → Prop} {s s' : ps_S} {r f : Nat} {v : Int64} (h : cfr C s s') (hr : C r) : cfr C s (ps_uj s' r f v) := fun q hq => by
  obtain ⟨a1, a2, a3, a4, a5⟩ := h q hq
  refine ⟨a1, fun g => ?_, a3, a4, a5⟩
  rw [ps_j_uj, if_neg (fun z => hq (by rw [z.1]; exact hr))]
  exact a2 g
theorem cfr_r {C : Nat → Prop} {s s' : ps_S} {r f v : Nat} (h : cfr C s s') (hr : C r) : cfr C s (ps_ur s' r f v) := fun q hq => by
  obtain ⟨a1, a2, a3, a4, a5⟩ := h q hq
  refine ⟨a1, a2, fun g => ?_, a4, a5⟩
  rw [ps_r_ur, if_neg (fun z => hq (by rw [z.1]; exact hr))]
  exact a3 g
theorem cfr_a {C : Nat → Prop} {s s' : ps_S} {r i : Nat} {v : Int32} (h : cfr C s s') (hr : C r) : cfr C s (ps_ua s' r i v) := fun q hq => by
  obtain ⟨a1, a2, a3, a4, a5⟩ := h q hq
  refine ⟨a1, a2, a3, ?_, a5⟩
  rw [← a4]
  funext k
  rw [ps_a_ua, if_neg (fun z => hq (by rw [z.1]; exact hr))]
theorem cfr_b {C : Nat → Prop} {s s' : ps_S} {r i : Nat} {v : Int64} (h : cfr C s s') (hr : C r) : cfr C s (ps_ub s' r i v) := fun q hq => by
  obtain ⟨a1, a2, a3, a4, a5⟩ := h q hq
  refine ⟨a1, a2, a3, a4, ?_⟩
  rw [← a5]
  funext k
  rw [ps_b_ub, if_neg (fun z => hq (by rw [z.1]; exact hr))]
theorem cfr_fr {r : Nat} {s s' : ps_S} (h : cv_fr r s s') : cfr (fun q => q = 902 ∨ q = 903 ∨ q = r ∨ q = r + 1 ∨ q = 906 ∨ q = 907) s s' := fun q hq => by
  have hq : ¬ (q = 902 ∨ q = 903 ∨ q = r ∨ q = r + 1 ∨ q = 906 ∨ q = 907) := hq
  exact ⟨fun f => h.2.1 q f (by omega) (Or.inl (by omega)) (by omega), fun f => h.2.2.2.1 q f (by omega), fun f => by rw [h.1], h.2.2.2.2.1 q (by omega), h.2.2.2.2.2 q (by omega) (by omega)⟩
theorem cfr_fl {s s' : ps_S} (h : cv_fl s s') : cfr (fun q => q = 903) s s' := fun q hq => by
  have hq : ¬ q = 903 := hq
  exact ⟨fun f => h.1 q f (Or.inl hq), fun f => h.2.1 q f hq, fun f => by rw [h.2.2.1], by rw [h.2.2.2.1], by rw [h.2.2.2.2]⟩
/-- the cells that reading a theory's text may change -/
def cv_HC (th q : Nat) : Prop := (th ≤ q ∧ q < th + 24) ∨ q = 902 ∨ q = 903 ∨ q = 906 ∨ q = 907
/-- the theory th holds this -/
def cv_H (s : ps_S) (th : Nat) (h : tx_H) : Prop := cv_E s th h.1 ∧ (ps_i s th 8).toInt = h.2.length ∧ h.2.length ≤ 8 ∧ ∀ (k : Nat) (w l : List Nat), h.2[k]? = some (w, l) → tx_w w ∧ ps_b s (th + 3) k = tx_x w ∧ cv_W s (th + 8 + 2 * k) l
theorem cv_E_cfr {C : Nat → Prop} {s s' : ps_S} {th : Nat} {g : tx_g} (h : cv_E s th g) (F : cfr C s s') (h0 : ¬ C th) (h1 : ¬ C (th + 1)) (h2 : ¬ C (th + 2)) (h4 : ¬ C (th + 4)) : cv_E s' th g := by
  unfold cv_E at *
  rw [(F th h0).1, (F th h0).1, (F _ h1).2.2.2.2, (F _ h2).2.2.2.2, (F _ h4).2.2.2.1]
  exact h
theorem cv_W_cfr {C : Nat → Prop} {s s' : ps_S} {r : Nat} {l : List Nat} (h : cv_W s r l) (F : cfr C s s') (h0 : ¬ C r) (h1 : ¬ C (r + 1)) : cv_W s' r l := by
  unfold cv_W at *
  rw [(F r h0).1, (F r h0).1, (F _ h1).2.2.2.1]
  exact h
theorem cv_H_cfr {C : Nat → Prop} {s s' : ps_S} {th : Nat} {h : tx_H} (H : cv_H s th h) (F : cfr C s s') (h0 : ∀ q, th ≤ q → q < th + 8 + 2 * h.2.length → ¬ C q) : cv_H s' th h := by
  obtain ⟨e1, e2, e3, e4⟩ := H
  refine ⟨cv_E_cfr e1 F (h0 _ (by omega) (by omega)) (h0 _ (by omega) (by omega)) (h0 _ (by omega) (by omega)) (h0 _ (by omega) (by omega)), by rw [(F th (h0 _ (by omega) (by omega))).1]; exact e2, e3, fun k w l hk => ?_⟩
  obtain ⟨z1, z2, z3⟩ := e4 k w l hk
  have hl := (List.getElem?_eq_some_iff.mp hk).1
  refine ⟨z1, by rw [(F (th + 3) (h0 _ (by omega) (by omega))).2.2.2.2]; exact z2, cv_W_cfr z3 F (h0 _ (by omega) (by omega)) (h0 _ (by omega) (by omega))⟩
theorem cv_T_cfr {C : Nat → Prop} {s s' : ps_S} {T : Nat → Nat} {N : Nat} (h : cv_T s T N) (F : cfr C s s') (hr : ps_r s' 903 1 = ps_r s 903 1) (hi : ps_i s' 903 2 = ps_i s 903 2) (h1 : ¬ C 1) (h4 : ¬ C 904) : cv_T s' T N := by
  obtain ⟨a1, a2, a3, a4, a5⟩ := h
  exact ⟨by rw [hr]; exact a1, by rw [hi]; exact a2, a3, by rw [(F 1 h1).2.2.2.1]; exact a4, by rw [(F 904 h4).2.2.2.2]; exact a5⟩
/-- at a line of a theory's text -/
def cv_L (s : ps_S) (th : Nat) (T : Nat → Nat) (N : Nat) (h : tx_H) (p : Nat) : Prop := (th = 2 ∨ th = 26) ∧ ps_r s 902 5 = th ∧ cv_T s T N ∧ cv_H s th h ∧ p ≤ N ∧ cv_K s (tx_tok T N p) ∧ (ps_i s 902 4).toInt = 0 ∧ (ps_i s 902 2).toInt = 0 ∧ (ps_i s 902 9).toInt = 0 ∧ (ps_i s 902 10).toInt = -1
theorem cv_L_adv {s s' : ps_S} {th : Nat} {T : Nat → Nat} {N : Nat} {h : tx_H} {p q : Nat} (L : cv_L s th T N h p) (hq : q ≤ N) (A : cv_A T N q s s') : cv_L s' th T N h q := by
  obtain ⟨l1, l2, l3, l4, l5, l6, l7, l8⟩ := L
  have F := cfr_fl A.1
  refine ⟨l1, by rw [A.1.2.2.1]; exact l2, cv_T_fl l3 A.1, cv_H_cfr l4 F (fun q h1 h2 z => ?_), hq, A.2, by rw [(F 902 (by decide)).1]; exact l7, by rw [(F 902 (by decide)).1, (F 902 (by decide)).1, (F 902 (by decide)).1]; exact l8⟩
  have := l4.2.2.1
  have z : q = 903 := z
  omega
def cl_ok (th : Nat) (s s' : ps_S) (T : Nat → Nat) (N : Nat) (d : tx_D4) : Prop := ∃ h' p', d = (0, h', p', 0) ∧ cv_L s' th T N h' p' ∧ cfr (cv_HC th) s s'
def cl_bad (th : Nat) (s s' : ps_S) (d : tx_D4) : Prop := ∃ (h' : tx_H) (pl k : Nat), d = (4, h', pl, k) ∧ (ps_i s' 902 9).toInt = k ∧ (ps_i s' 902 10).toInt = pl ∧ cfr (cv_HC th) s s'
/-- closed formulas take no free names -/
theorem tx_bf_fr {T : Nat → Nat} {n : Nat} {E : tx_E} {S : List tx_F} {p : Nat} {l : List Nat} {fr : List (List Nat)} : (tx_bf T n E S p l fr).2.2.2.2.1 = fr := by
  unfold tx_bf
  dsimp only
  split
  · split <;> rfl
  · split
    · rfl
    · split
      · split
        · split <;> rfl
        · rfl
      · rfl
theorem tx_bt_fr {T : Nat → Nat} {n : Nat} {E : tx_E} {S : List tx_F} {p : Nat} {l : List Nat} {fr : List (List Nat)} (hE : E.2 = true) : (tx_bt T n E S p l fr).2.2.2.2.1 = fr := by
  unfold tx_bt
  dsimp only
  split
  · split
    · rfl
    · split
      · next c fr2 hm =>
        unfold tx_nm at hm
        split at hm
        · cases hm; rfl
        · rw [if_pos hE] at hm
          cases hm
      · rfl
  · rfl
theorem tx_st_fr {T : Nat → Nat} {n : Nat} {E : tx_E} (hE : E.2 = true) (c : tx_C) : (tx_st T n E c).2.2.2.2.1 = c.2.2.2.2.1 := by
  unfold tx_st
  split
  · exact tx_bt_fr hE
  · exact tx_bf_fr
  · rfl
  · rfl
  · rfl
  · rfl
theorem tx_go_fr {T : Nat → Nat} {n : Nat} {E : tx_E} (hE : E.2 = true) {c c' : tx_C} (h : gt_go (tx_st T n E) c c') : c'.2.2.2.2.1 = c.2.2.2.2.1 := by
  obtain ⟨m, h⟩ := h
  induction m generalizing c with
  | zero =>
    have h : c = c' := h
    rw [h]
  | succ m ih =>
    have h : gt_it (tx_st T n E) m (tx_st T n E c) = c' := h
    rw [ih h, tx_st_fr hE]
