/-! the class's reader: what stands fixed while a formula is read, what moves -/
abbrev tx_g : Type := List (List Nat × Nat) × List (List Nat × Nat)
/-- a theory's tables: names and what they take -/
def cv_E (s : ps_S) (th : Nat) (g : tx_g) : Prop := (ps_i s th 6).toInt = g.1.length ∧ (ps_i s th 7).toInt = g.2.length ∧ g.1.length ≤ 6 ∧ g.2.length ≤ 4 ∧ (∀ (k : Nat) (w : List Nat) (a : Nat), g.1[k]? = some (w, a) → tx_w w ∧ a ≤ 2 ∧ ps_b s (th + 1) k = tx_x w ∧ (ps_a s (th + 4) (10 + k)).toInt = a) ∧ (∀ (k : Nat) (w : List Nat) (a : Nat), g.2[k]? = some (w, a) → tx_w w ∧ a ≤ 2 ∧ ps_b s (th + 2) k = tx_x w ∧ (ps_a s (th + 4) (20 + k)).toInt = a) ∧
  ((ps_a s (th + 4) 0).toInt = 0 ∧ (ps_a s (th + 4) 1).toInt = 2 ∧ (ps_a s (th + 4) 2).toInt = 2 ∧ (ps_a s (th + 4) 3).toInt = 2 ∧ (ps_a s (th + 4) 4).toInt = 1 ∧ (ps_a s (th + 4) 5).toInt = 1 ∧ (ps_a s (th + 4) 6).toInt = 2) ∧ ∀ w, w ∈ g.1.map Prod.fst → w ∈ g.2.map Prod.fst → False
/-- what reading a formula into the row r may change -/
def cv_fr (r : Nat) (s s' : ps_S) : Prop := ps_r s' = ps_r s ∧ (∀ q f, q ≠ 902 → (q ≠ 903 ∨ f = 2) → q ≠ r → ps_i s' q f = ps_i s q f) ∧ ps_i s' 902 8 = ps_i s 902 8 ∧ (∀ q f, q ≠ 903 → ps_j s' q f = ps_j s q f) ∧ (∀ q, q ≠ r + 1 → ps_a s' q = ps_a s q) ∧ ∀ q, q ≠ 906 → q ≠ 907 → ps_b s' q = ps_b s q
theorem cv_fr_refl {r : Nat} {s : ps_S} : cv_fr r s s := ⟨rfl, fun _ _ _ _ _ => rfl, rfl, fun _ _ _ => rfl, fun _ _ => rfl, fun _ _ _ => rfl⟩
theorem cv_fr_tr {r : Nat} {s s1 s2 : ps_S} (h : cv_fr r s s1) (g : cv_fr r s1 s2) : cv_fr r s s2 := ⟨g.1.trans h.1, fun q f a b c => (g.2.1 q f a b c).trans (h.2.1 q f a b c), g.2.2.1.trans h.2.2.1, fun q f a => (g.2.2.2.1 q f a).trans (h.2.2.2.1 q f a), fun q a => (g.2.2.2.2.1 q a).trans (h.2.2.2.2.1 q a), fun q a b => (g.2.2.2.2.2 q a b).trans (h.2.2.2.2.2 q a b)⟩
theorem cv_fr_fl {r : Nat} {s s' : ps_S} (h : cv_fl s s') : cv_fr r s s' := ⟨h.2.2.1, fun q f _ b _ => h.1 q f b, h.1 902 8 (Or.inl (by decide)), h.2.1, fun q _ => by rw [h.2.2.2.1], fun q _ _ => by rw [h.2.2.2.2]⟩
theorem cv_fr_i {r q : Nat} {v : Int32} {s s' : ps_S} (h : cv_fr r s s') (hq : q ≠ 8) : cv_fr r s (ps_ui s' 902 q v) := by
  refine ⟨h.1, fun q' f a b c => ?_, ?_, h.2.2.2.1, h.2.2.2.2.1, h.2.2.2.2.2⟩
  · rw [ps_i_ui, if_neg (by omega)]
    exact h.2.1 q' f a b c
  · rw [ps_i_ui, if_neg (by omega)]
    exact h.2.2.1
theorem cv_fr_w {r q : Nat} {v : Int32} {s s' : ps_S} (h : cv_fr r s s') (hr : r ≠ 902) : cv_fr r s (ps_ui s' r q v) := by
  refine ⟨h.1, fun q' f a b c => ?_, ?_, h.2.2.2.1, h.2.2.2.2.1, h.2.2.2.2.2⟩
  · rw [ps_i_ui, if_neg (fun z => c z.1)]
    exact h.2.1 q' f a b c
  · rw [ps_i_ui, if_neg (fun z => hr z.1.symm)]
    exact h.2.2.1
theorem cv_fr_a {r i : Nat} {v : Int32} {s s' : ps_S} (h : cv_fr r s s') : cv_fr r s (ps_ua s' (r + 1) i v) := by
  refine ⟨h.1, h.2.1, h.2.2.1, h.2.2.2.1, fun q a => ?_, h.2.2.2.2.2⟩
  rw [← h.2.2.2.2.1 q a]
  funext k
  rw [ps_a_ua, if_neg (fun z => a z.1)]
theorem cv_fr_b {r i q : Nat} {v : Int64} {s s' : ps_S} (h : cv_fr r s s') (hq : q = 906 ∨ q = 907) : cv_fr r s (ps_ub s' q i v) := by
  refine ⟨h.1, h.2.1, h.2.2.1, h.2.2.2.1, h.2.2.2.2.1, fun q' a b => ?_⟩
  rw [← h.2.2.2.2.2 q' a b]
  funext k
  rw [ps_b_ub, if_neg (by omega)]
theorem cv_th5 {th : Nat} (h : th = 2 ∨ th = 26) : ps_is th 5 = false ∧ ps_is (th + 3) 5 = false ∧ ps_is th 9 = true ∧ ps_c0 th 0 = th + 1 ∧ ps_c0 th 1 = th + 2 ∧ ps_c0 th 2 = th + 3 ∧ ps_c0 th 3 = th + 4 ∧ ps_ln (th + 1) = 6 ∧ ps_ln (th + 2) = 4 ∧ ps_ln (th + 3) = 8 ∧ ps_ln (th + 4) = 40 := by
  rcases h with rfl | rfl <;> decide +kernel
theorem cv_n5 : ps_is 902 5 = false ∧ ps_is 903 5 = false ∧ ps_is 0 5 = false := by decide +kernel
theorem cv_E_fr {s s' : ps_S} {th r : Nat} {g : tx_g} (hth : th = 2 ∨ th = 26) (hr : ps_is r 5 = true) (h : cv_E s th g) (F : cv_fr r s s') : cv_E s' th g := by
  have t := cv_th5 hth
  have e1 : ∀ f, ps_i s' th f = ps_i s th f := fun f => F.2.1 th f (by omega) (Or.inl (by omega)) (fun z => cv_ne hr t.1 z.symm)
  have e2 : ps_a s' (th + 4) = ps_a s (th + 4) := F.2.2.2.2.1 _ (fun z => cv_ne hr t.2.1 (by omega))
  have e3 : ps_b s' (th + 1) = ps_b s (th + 1) := F.2.2.2.2.2 _ (by omega) (by omega)
  have e4 : ps_b s' (th + 2) = ps_b s (th + 2) := F.2.2.2.2.2 _ (by omega) (by omega)
  unfold cv_E at *
  rw [e1, e1, e2, e3, e4]
  exact h
theorem cv_T_fr {s s' : ps_S} {r : Nat} {T : Nat → Nat} {N : Nat} (hr : ps_is r 5 = true) (h : cv_T s T N) (F : cv_fr r s s') : cv_T s' T N := by
  obtain ⟨h1, h2, h3, h4, h5⟩ := h
  refine ⟨by rw [F.1]; exact h1, ?_, h3, ?_, ?_⟩
  · rw [F.2.1 903 2 (by decide) (Or.inr rfl) (fun z => cv_ne hr cv_n5.2.1 z.symm)]
    exact h2
  · rw [F.2.2.2.2.1 1 (fun z => cv_ne hr cv_n5.2.2 (by omega))]
    exact h4
  · rw [F.2.2.2.2.2 904 (by decide) (by decide)]
    exact h5
/-- fixed: the theory th, the row r, the text, the tables, whether no name may be free -/
def cv_S (th r : Nat) (s : ps_S) (T : Nat → Nat) (N : Nat) (E : tx_E) : Prop := (th = 2 ∨ th = 26) ∧ ps_is r 5 = true ∧ ps_r s 902 5 = th ∧ ps_r s 902 6 = r ∧ (ps_i s 902 8).toInt = (if E.2 = true then 1 else 0) ∧ cv_T s T N ∧ cv_E s th E.1
theorem cv_S_fr {th r : Nat} {s s' : ps_S} {T : Nat → Nat} {N : Nat} {E : tx_E} (h : cv_S th r s T N E) (F : cv_fr r s s') : cv_S th r s' T N E := by
  obtain ⟨h1, h2, h3, h4, h5, h6, h7⟩ := h
  exact ⟨h1, h2, by rw [F.1]; exact h3, by rw [F.1]; exact h4, by rw [F.2.2.1]; exact h5, cv_T_fr h2 h6 F, cv_E_fr h1 h2 h7 F⟩
def cv_W (s : ps_S) (r : Nat) (l : List Nat) : Prop := (ps_i s r 1).toInt = l.length ∧ ps_i s r 2 = 0 ∧ l.length ≤ 40 ∧ ∀ (k c : Nat), l[k]? = some c → (ps_a s (r + 1) k).toInt = c
def cv_P (s : ps_S) (fr : List (List Nat)) : Prop := (ps_i s 902 2).toInt = fr.length ∧ fr.length ≤ 12 ∧ ∀ (k : Nat) (w : List Nat), fr[k]? = some w → tx_w w ∧ ps_b s 906 k = tx_x w
def cv_Q (s : ps_S) (bs : List (List Nat)) : Prop := (ps_i s 902 4).toInt = bs.length ∧ bs.length ≤ 5 ∧ ∀ (k : Nat) (w : List Nat), bs[k]? = some w → tx_w w ∧ ps_b s 907 (bs.length - 1 - k) = tx_x w
/-- moving: frames, place, row, free names -/
def cv_C (r : Nat) (s : ps_S) (T : Nat → Nat) (N : Nat) (S : List tx_F) (p : Nat) (l : List Nat) (fr : List (List Nat)) : Prop := p ≤ N ∧ (S.length ≤ 13 ∧ l.length + tx_due S ≤ 40) ∧ cv_K s (tx_tok T N p) ∧ cv_W s r l ∧ cv_P s fr ∧ cv_Q s (tx_bs S) ∧ ((ps_i s 902 7).toInt = tx_due S ∧ (ps_i s 902 9).toInt = 0 ∧ (ps_i s 902 10).toInt = -1)
def cv_ok (r : Nat) (s s' : ps_S) (T : Nat → Nat) (N : Nat) (E : tx_E) (S : List tx_F) (c0 : tx_C) : Prop := ∃ p' l' fr', gt_go (tx_st T N E) c0 (2, S, p', l', fr', 0) ∧ cv_C r s' T N S p' l' fr' ∧ cv_fr r s s'
def cv_bad (r : Nat) (s s' : ps_S) (T : Nat → Nat) (N : Nat) (E : tx_E) (c0 : tx_C) : Prop := ∃ (S' : List tx_F) (pl : Nat) (l' : List Nat) (fr' : List (List Nat)) (k : Nat), gt_go (tx_st T N E) c0 (4, S', pl, l', fr', k) ∧ (ps_i s' 902 9).toInt = k ∧ (ps_i s' 902 10).toInt = pl ∧ cv_fr r s s'
theorem cv_ok_tr {r : Nat} {s s1 s' : ps_S} {T : Nat → Nat} {N : Nat} {E : tx_E} {S : List tx_F} {c0 c1 : tx_C} (g : gt_go (tx_st T N E) c0 c1) (F : cv_fr r s s1) (h : cv_ok r s1 s' T N E S c1) : cv_ok r s s' T N E S c0 := by
  obtain ⟨p', l', fr', h1, h2, h3⟩ := h
  exact ⟨p', l', fr', gt_trans g h1, h2, cv_fr_tr F h3⟩
theorem cv_bad_tr {r : Nat} {s s1 s' : ps_S} {T : Nat → Nat} {N : Nat} {E : tx_E} {c0 c1 : tx_C} (g : gt_go (tx_st T N E) c0 c1) (F : cv_fr r s s1) (h : cv_bad r s1 s' T N E c1) : cv_bad r s s' T N E c0 := by
  obtain ⟨S', pl, l', fr', k, h1, h2, h3, h4⟩ := h
  exact ⟨S', pl, l', fr', k, gt_trans g h1, h2, h3, cv_fr_tr F h4⟩
/-! what moves, step by step -/
section CVM
variable {r : Nat} {s s' : ps_S} {T : Nat → Nat} {N : Nat} {S : List tx_F} {p : Nat} {l : List Nat} {fr : List (List Nat)}
theorem cv_C_adv (hr : ps_is r 5 = true) (h : cv_C r s T N S p l fr) {q : Nat} (hq : q ≤ N) (A : cv_A T N q s s') : cv_C r s' T N S q l fr := by
  obtain ⟨h1, h2, h3, h4, h5, h6, h7⟩ := h
  obtain ⟨F, K⟩ := A
  have n3 : r ≠ 903 := cv_ne hr cv_n5.2.1
  have ei : ∀ f, ps_i s' 902 f = ps_i s 902 f := fun f => F.1 902 f (Or.inl (by decide))
  have er : ∀ f, ps_i s' r f = ps_i s r f := fun f => F.1 r f (Or.inl n3)
  refine ⟨hq, h2, K, ?_, ?_, ?_, by rw [ei, ei, ei]; exact h7⟩
  · unfold cv_W at *
    rw [er, er, F.2.2.2.1]
    exact h4
  · unfold cv_P at *
    rw [ei, F.2.2.2.2]
    exact h5
  · unfold cv_Q at *
    rw [ei, F.2.2.2.2]
    exact h6
theorem cv_C_add (hr : ps_is r 5 = true) (h : cv_C r s T N S p l fr) {c : Nat} {v : Int32} (hv : v.toInt = c) (hl : l.length + tx_due S + 1 ≤ 40) : cv_C r (ps_ui (ps_ua s (r + 1) l.length v) r 1 (ps_i s r 1 + 1)) T N S p (l ++ [c]) fr := by
  obtain ⟨h1, h2, h3, h4, h5, h6, h7⟩ := h
  have n2 : 902 ≠ r := fun z => cv_ne hr cv_n5.1 z.symm
  have n3 : 903 ≠ r := fun z => cv_ne hr cv_n5.2.1 z.symm
  have e2 : ∀ f, ps_i (ps_ui (ps_ua s (r + 1) l.length v) r 1 (ps_i s r 1 + 1)) 902 f = ps_i s 902 f := fun f => if_neg (fun z => n2 z.1)
  have e3 : ∀ f, ps_i (ps_ui (ps_ua s (r + 1) l.length v) r 1 (ps_i s r 1 + 1)) 903 f = ps_i s 903 f := fun f => if_neg (fun z => n3 z.1)
  obtain ⟨w1, w2, w3, w4⟩ := h4
  refine ⟨h1, ⟨h2.1, by rw [List.length_append]; show l.length + 1 + tx_due S ≤ 40; omega⟩, ?_, ⟨?_, ?_, ?_, fun k c' hk => ?_⟩, ?_, ?_, by rw [e2, e2, e2]; exact h7⟩
  · unfold cv_K at *
    rw [e3, e3, e3, e3, e3]
    exact h3
  · rw [ps_i_ui, if_pos ⟨rfl, rfl⟩, List.length_append]
    exact xj1 w1 (by omega)
  · rw [ps_i_ui, if_neg (by omega)]
    exact w2
  · rw [List.length_append]
    show l.length + 1 ≤ 40
    omega
  · show (ps_a (ps_ua s (r + 1) l.length v) (r + 1) k).toInt = c'
    rw [ps_a_ua]
    by_cases e : k = l.length
    · rw [if_pos ⟨rfl, e⟩]
      rw [e, List.getElem?_append_right (Nat.le_refl _), Nat.sub_self] at hk
      cases hk
      exact hv
    · rw [if_neg (fun z => e z.2)]
      have hk2 : k < l.length := by
        have := (List.getElem?_eq_some_iff.mp hk).1
        rw [List.length_append] at this
        have : k < l.length + 1 := this
        omega
      rw [List.getElem?_append_left hk2] at hk
      exact w4 k c' hk
  · unfold cv_P at *
    rw [e2]
    exact h5
  · unfold cv_Q at *
    rw [e2]
    exact h6
theorem cv_C_up (h : cv_C r s T N S p l fr) (hS : S.length ≤ 12) (k : Nat) (b : Bool) : cv_C r s T N ((k, b, false, none) :: S) p l fr := by
  obtain ⟨h1, h2, h3, h4, h5, h6, h7⟩ := h
  refine ⟨h1, ⟨by rw [List.length_cons]; omega, by show l.length + (0 + tx_due S) ≤ 40; omega⟩, h3, h4, h5, h6, ?_⟩
  refine ⟨?_, h7.2⟩
  show _ = ((0 + tx_due S : Nat) : Int)
  rw [Nat.zero_add]
  exact h7.1
theorem cv_C_down {k : Nat} {b : Bool} (h : cv_C r s T N ((k, b, false, none) :: S) p l fr) : cv_C r s T N S p l fr := by
  obtain ⟨h1, h2, h3, h4, h5, h6, h7⟩ := h
  have h2b : l.length + (0 + tx_due S) ≤ 40 := h2.2
  have h2a : S.length + 1 ≤ 13 := h2.1
  refine ⟨h1, ⟨by omega, by omega⟩, h3, h4, h5, h6, ?_⟩
  have h7a : _ = ((0 + tx_due S : Nat) : Int) := h7.1
  rw [Nat.zero_add] at h7a
  exact ⟨h7a, h7.2⟩
theorem cv_C_i {q : Nat} {v : Int32} {S' : List tx_F} (hr : ps_is r 5 = true) (h : cv_C r s T N S p l fr) (hS : S'.length ≤ 13 ∧ l.length + tx_due S' ≤ 40) (h2 : q ≠ 2) (h4 : q ≠ 4) (h9 : q ≠ 9) (h10 : q ≠ 10) (hb : tx_bs S' = tx_bs S) (h7 : (ps_i (ps_ui s 902 q v) 902 7).toInt = tx_due S') : cv_C r (ps_ui s 902 q v) T N S' p l fr := by
  obtain ⟨g1, g2, g3, g4, g5, g6, g7⟩ := h
  have nr : r ≠ 902 := cv_ne hr cv_n5.1
  have er : ∀ f, ps_i (ps_ui s 902 q v) r f = ps_i s r f := fun f => if_neg (fun z => nr z.1)
  have e2 : ∀ f, f ≠ q → ps_i (ps_ui s 902 q v) 902 f = ps_i s 902 f := fun f hf => if_neg (fun z => hf z.2)
  refine ⟨g1, hS, g3, ?_, ?_, ?_, h7, by rw [e2 9 (by omega)]; exact g7.2.1, by rw [e2 10 (by omega)]; exact g7.2.2⟩
  · unfold cv_W at *
    rw [er, er]
    exact g4
  · unfold cv_P at *
    rw [e2 2 (by omega)]
    exact g5
  · unfold cv_Q at *
    rw [e2 4 (by omega), hb]
    exact g6
theorem cv_C_not (hr : ps_is r 5 = true) (h : cv_C r s T N S p l fr) (hS : S.length ≤ 12) (hl : l.length + tx_due S + 1 ≤ 40) : cv_C r (ps_ui s 902 7 (ps_i s 902 7 + 1)) T N ((0, true, true, none) :: S) p l fr := by
  refine cv_C_i hr h ⟨by rw [List.length_cons]; omega, by show l.length + (1 + tx_due S) ≤ 40; omega⟩ (by decide) (by decide) (by decide) (by decide) rfl ?_
  rw [ps_i_ui, if_pos ⟨rfl, rfl⟩]
  have h7 := h.2.2.2.2.2.2.1
  have := tx_due_le (S := S)
  rw [xj1 h7 (by omega)]
  show ((tx_due S + 1 : Nat) : Int) = ((1 + tx_due S : Nat) : Int)
  omega
theorem cv_C_ton (hr : ps_is r 5 = true) (h : cv_C r s T N ((0, true, true, none) :: S) p l fr) : cv_C r (ps_ui s 902 7 (ps_i s 902 7 - 1)) T N S p l fr := by
  have h2 : S.length + 1 ≤ 13 := h.2.1.1
  have h2b : l.length + (1 + tx_due S) ≤ 40 := h.2.1.2
  refine cv_C_i hr h ⟨by omega, by omega⟩ (by decide) (by decide) (by decide) (by decide) rfl ?_
  rw [ps_i_ui, if_pos ⟨rfl, rfl⟩]
  have h7 : _ = ((1 + tx_due S : Nat) : Int) := h.2.2.2.2.2.2.1
  have := tx_due_le (S := S)
  have h1 : (1 : Int32).toInt = 1 := by decide
  rw [xIs (by omega) (by omega)]
  omega
theorem cv_C_push (hr : ps_is r 5 = true) (h : cv_C r s T N S p l fr) (hS : S.length ≤ 12) (hb : (tx_bs S).length ≤ 4) {w : List Nat} (hw : tx_w w) {v : Int64} (hv : v = tx_x w) : cv_C r (ps_ui (ps_ub s 907 (tx_bs S).length v) 902 4 (ps_i s 902 4 + 1)) T N ((0, true, false, some w) :: S) p l fr := by
  obtain ⟨g1, g2, g3, g4, g5, g6, g7⟩ := h
  have nr : r ≠ 902 := cv_ne hr cv_n5.1
  have er : ∀ f, ps_i (ps_ui (ps_ub s 907 (tx_bs S).length v) 902 4 (ps_i s 902 4 + 1)) r f = ps_i s r f := fun f => if_neg (fun z => nr z.1)
  obtain ⟨q1, q2, q3⟩ := g6
  refine ⟨g1, ⟨by rw [List.length_cons]; omega, by show l.length + (0 + tx_due S) ≤ 40; omega⟩, g3, ?_, ?_, ⟨?_, ?_, fun k w' hk => ?_⟩, ?_⟩
  · unfold cv_W at *
    rw [er, er]
    exact g4
  · obtain ⟨f1, f2, f3⟩ := g5
    refine ⟨f1, f2, fun k w' hk => ?_⟩
    obtain ⟨z1, z2⟩ := f3 k w' hk
    refine ⟨z1, ?_⟩
    show ps_b (ps_ub s 907 (tx_bs S).length v) 906 k = _
    rw [ps_b_ub, if_neg (by omega)]
    exact z2
  · rw [ps_i_ui, if_pos ⟨rfl, rfl⟩]
    exact xj1 q1 (by omega)
  · show (tx_bs S).length + 1 ≤ 5
    omega
  · show tx_w w' ∧ ps_b (ps_ub s 907 (tx_bs S).length v) 907 ((tx_bs S).length + 1 - 1 - k) = tx_x w'
    cases k with
    | zero =>
      have hk : some w = some w' := hk
      cases hk
      refine ⟨hw, ?_⟩
      rw [ps_b_ub, if_pos ⟨rfl, by omega⟩]
      exact hv
    | succ k =>
      have hk : (tx_bs S)[k]? = some w' := hk
      have hl := (List.getElem?_eq_some_iff.mp hk).1
      obtain ⟨z1, z2⟩ := q3 k w' hk
      refine ⟨z1, ?_⟩
      rw [ps_b_ub, if_neg (by omega), show (tx_bs S).length + 1 - 1 - (k + 1) = (tx_bs S).length - 1 - k from by omega]
      exact z2
  · refine ⟨?_, g7.2⟩
    show (ps_i s 902 7).toInt = ((0 + tx_due S : Nat) : Int)
    rw [Nat.zero_add]
    exact g7.1
theorem cv_C_pop (hr : ps_is r 5 = true) {w : List Nat} (h : cv_C r s T N ((0, true, false, some w) :: S) p l fr) : cv_C r (ps_ui s 902 4 (ps_i s 902 4 - 1)) T N S p l fr := by
  obtain ⟨g1, g2, g3, g4, g5, g6, g7⟩ := h
  have nr : r ≠ 902 := cv_ne hr cv_n5.1
  have er : ∀ f, ps_i (ps_ui s 902 4 (ps_i s 902 4 - 1)) r f = ps_i s r f := fun f => if_neg (fun z => nr z.1)
  obtain ⟨q1, q2, q3⟩ := g6
  have q1 : (ps_i s 902 4).toInt = ((tx_bs S).length + 1 : Nat) := q1
  have q2 : (tx_bs S).length + 1 ≤ 5 := q2
  have g2b : l.length + (0 + tx_due S) ≤ 40 := g2.2
  have g2a : S.length + 1 ≤ 13 := g2.1
  refine ⟨g1, ⟨by omega, by omega⟩, g3, ?_, g5, ⟨?_, by omega, fun k w' hk => ?_⟩, ?_⟩
  · unfold cv_W at *
    rw [er, er]
    exact g4
  · rw [ps_i_ui, if_pos ⟨rfl, rfl⟩]
    have h1 : (1 : Int32).toInt = 1 := by decide
    rw [xIs (by omega) (by omega)]
    omega
  · have hl := (List.getElem?_eq_some_iff.mp hk).1
    obtain ⟨z1, z2⟩ := q3 (k + 1) w' hk
    refine ⟨z1, ?_⟩
    have z2 : ps_b s 907 ((tx_bs S).length + 1 - 1 - (k + 1)) = tx_x w' := z2
    rw [show (tx_bs S).length + 1 - 1 - (k + 1) = (tx_bs S).length - 1 - k from by omega] at z2
    exact z2
  · have g7a : (ps_i s 902 7).toInt = ((0 + tx_due S : Nat) : Int) := g7.1
    rw [Nat.zero_add] at g7a
    exact ⟨g7a, g7.2⟩
theorem cv_C_free (hr : ps_is r 5 = true) (h : cv_C r s T N S p l fr) (hf : fr.length < 12) {w : List Nat} (hw : tx_w w) {v : Int64} (hv : v = tx_x w) : cv_C r (ps_ui (ps_ub s 906 fr.length v) 902 2 (ps_i s 902 2 + 1)) T N S p l (fr ++ [w]) := by
  obtain ⟨g1, g2, g3, g4, g5, g6, g7⟩ := h
  have nr : r ≠ 902 := cv_ne hr cv_n5.1
  have er : ∀ f, ps_i (ps_ui (ps_ub s 906 fr.length v) 902 2 (ps_i s 902 2 + 1)) r f = ps_i s r f := fun f => if_neg (fun z => nr z.1)
  obtain ⟨q1, q2, q3⟩ := g5
  refine ⟨g1, g2, g3, ?_, ⟨?_, ?_, fun k w' hk => ?_⟩, ?_, g7⟩
  · unfold cv_W at *
    rw [er, er]
    exact g4
  · rw [ps_i_ui, if_pos ⟨rfl, rfl⟩, List.length_append]
    exact xj1 q1 (by omega)
  · rw [List.length_append]
    show fr.length + 1 ≤ 12
    omega
  · show tx_w w' ∧ ps_b (ps_ub s 906 fr.length v) 906 k = tx_x w'
    rw [ps_b_ub]
    by_cases e : k = fr.length
    · rw [e, List.getElem?_append_right (Nat.le_refl _), Nat.sub_self] at hk
      cases hk
      rw [if_pos ⟨rfl, e⟩]
      exact ⟨hw, hv⟩
    · have hk2 : k < fr.length := by
        have := (List.getElem?_eq_some_iff.mp hk).1
        rw [List.length_append] at this
        have : k < fr.length + 1 := this
        omega
      rw [List.getElem?_append_left hk2] at hk
      rw [if_neg (fun z => e z.2)]
      exact q3 k w' hk
  · obtain ⟨f1, f2, f3⟩ := g6
    refine ⟨f1, f2, fun k w' hk => ?_⟩
    obtain ⟨z1, z2⟩ := f3 k w' hk
    refine ⟨z1, ?_⟩
    show ps_b (ps_ub s 906 fr.length v) 907 _ = _
    rw [ps_b_ub, if_neg (by omega)]
    exact z2
end CVM
