/-! the reference's theory while its text is read -/
def mTA : List Nat := [1134, 1135, 1136, 1137, 1138, 1139, 1140, 1141, 1142, 1143, 1144, 1145, 1146, 1147, 1148]
/-- reading a theory into the bank rb changes nothing of the other bank -/
def mv_bk (rb : Nat) (s s' : ps_S) : Prop := kq mTA mF2 s s' ∧ (∀ i, i ≠ rb → ps_a s' 1135 i = ps_a s 1135 i ∧ ps_a s' 1136 i = ps_a s 1136 i ∧ ps_a s' 1137 i = ps_a s 1137 i) ∧ (∀ i, (i < 6 * rb ∨ 6 * rb + 6 ≤ i) → ps_a s' 1138 i = ps_a s 1138 i ∧ ps_b s' 1140 i = ps_b s 1140 i) ∧ (∀ i, (i < 4 * rb ∨ 4 * rb + 4 ≤ i) → ps_a s' 1139 i = ps_a s 1139 i ∧ ps_b s' 1141 i = ps_b s 1141 i) ∧ (∀ i, (i < 8 * rb ∨ 8 * rb + 8 ≤ i) → ps_b s' 1142 i = ps_b s 1142 i) ∧ ∀ i, (i < 21812 + 328 * rb ∨ 21812 + 328 * rb + 328 ≤ i) → ps_a s' 1134 i = ps_a s 1134 i
theorem mv_bk_refl {rb : Nat} {s : ps_S} : mv_bk rb s s := ⟨kq_refl, fun _ _ => ⟨rfl, rfl, rfl⟩, fun _ _ => ⟨rfl, rfl⟩, fun _ _ => ⟨rfl, rfl⟩, fun _ _ => rfl, fun _ _ => rfl⟩
theorem mv_bk_tr {rb : Nat} {s s1 s2 : ps_S} (h : mv_bk rb s s1) (g : mv_bk rb s1 s2) : mv_bk rb s s2 := by
  obtain ⟨h1, h2, h3, h4, h5, h6⟩ := h
  obtain ⟨g1, g2, g3, g4, g5, g6⟩ := g
  exact ⟨kqt h1 g1 (by decide) (by decide), fun i hi => ⟨(g2 i hi).1.trans (h2 i hi).1, (g2 i hi).2.1.trans (h2 i hi).2.1, (g2 i hi).2.2.trans (h2 i hi).2.2⟩, fun i hi => ⟨(g3 i hi).1.trans (h3 i hi).1, (g3 i hi).2.trans (h3 i hi).2⟩, fun i hi => ⟨(g4 i hi).1.trans (h4 i hi).1, (g4 i hi).2.trans (h4 i hi).2⟩, fun i hi => (g5 i hi).trans (h5 i hi), fun i hi => (g6 i hi).trans (h6 i hi)⟩
theorem mv_bk_kq {A F : List Nat} {rb : Nat} {s s' : ps_S} (h : kq A F s s') (hA : A.all (fun a => [1143, 1144, 1145, 1146, 1147, 1148].contains a) = true) (hF : F.all (fun a => mF2.contains a) = true) : mv_bk rb s s' := by
  have h2 : kq [1143, 1144, 1145, 1146, 1147, 1148] mF2 s s' := kqt kq_refl h hA hF
  exact ⟨kqt kq_refl h2 (by decide) (by decide), fun i _ => by rw [kq_a h2 1135 (by decide), kq_a h2 1136 (by decide), kq_a h2 1137 (by decide)]; exact ⟨rfl, rfl, rfl⟩, fun i _ => by rw [kq_a h2 1138 (by decide), kq_b h2 1140 (by decide)]; exact ⟨rfl, rfl⟩, fun i _ => by rw [kq_a h2 1139 (by decide), kq_b h2 1141 (by decide)]; exact ⟨rfl, rfl⟩, fun i _ => by rw [kq_b h2 1142 (by decide)], fun i _ => by rw [kq_a h2 1134 (by decide)]⟩
theorem mv_bk_row {rb m : Nat} {s s' : ps_S} (hm : m < 8) (h : mv_fr2 (21812 + 41 * (8 * rb + m)) s s') : mv_bk rb s s' := by
  obtain ⟨h1, h2⟩ := h
  exact ⟨kqt kq_refl h1 (by decide) (by decide), fun i _ => by rw [kq_a h1 1135 (by decide), kq_a h1 1136 (by decide), kq_a h1 1137 (by decide)]; exact ⟨rfl, rfl, rfl⟩, fun i _ => by rw [kq_a h1 1138 (by decide), kq_b h1 1140 (by decide)]; exact ⟨rfl, rfl⟩, fun i _ => by rw [kq_a h1 1139 (by decide), kq_b h1 1141 (by decide)]; exact ⟨rfl, rfl⟩, fun i _ => by rw [kq_b h1 1142 (by decide)], fun i hi => h2 i (by omega)⟩
/-- a write of an int into a table of the bank -/
theorem mv_bk_a {rb q i : Nat} {v : Int32} {s : ps_S} (h : (q = 1135 ∧ i = rb) ∨ (q = 1136 ∧ i = rb) ∨ (q = 1137 ∧ i = rb) ∨ (q = 1138 ∧ 6 * rb ≤ i ∧ i < 6 * rb + 6) ∨ (q = 1139 ∧ 4 * rb ≤ i ∧ i < 4 * rb + 4)) : mv_bk rb s (ps_ua s q i v) := by
  refine ⟨kqa kq_refl (by rcases h with h | h | h | h | h <;> rw [h.1] <;> rfl), fun j hj => ⟨?_, ?_, ?_⟩, fun j hj => ⟨?_, rfl⟩, fun j hj => ⟨?_, rfl⟩, fun j hj => rfl, fun j hj => ?_⟩ <;> rw [ps_a_ua, if_neg (by omega)]
theorem mv_bk_b {rb q i : Nat} {v : Int64} {s : ps_S} (h : (q = 1140 ∧ 6 * rb ≤ i ∧ i < 6 * rb + 6) ∨ (q = 1141 ∧ 4 * rb ≤ i ∧ i < 4 * rb + 4) ∨ (q = 1142 ∧ 8 * rb ≤ i ∧ i < 8 * rb + 8)) : mv_bk rb s (ps_ub s q i v) := by
  refine ⟨kqb kq_refl (by rcases h with h | h | h <;> rw [h.1] <;> rfl), fun j hj => ⟨rfl, rfl, rfl⟩, fun j hj => ⟨rfl, ?_⟩, fun j hj => ⟨rfl, ?_⟩, fun j hj => ?_, fun j hj => rfl⟩ <;> rw [ps_b_ub, if_neg (by omega)]
/-- the bank rb holds this -/
def mv_H (s : ps_S) (rb : Nat) (h : tx_H) : Prop := mv_E s rb h.1 ∧ (ps_a s 1137 rb).toInt = h.2.length ∧ h.2.length ≤ 8 ∧ ∀ (k : Nat) (w l : List Nat), h.2[k]? = some (w, l) → tx_w w ∧ ps_b s 1142 (8 * rb + k) = tx_m w ∧ mv_W s (21812 + 41 * (8 * rb + k)) l
theorem mv_H_kq {A F : List Nat} {s s' : ps_S} {rb : Nat} {h : tx_H} (H : mv_H s rb h) (K : kq A F s s') (hA : [1134, 1135, 1136, 1137, 1138, 1139, 1140, 1141, 1142].all (fun q => !A.contains q) = true) : mv_H s' rb h := by
  rw [List.all_eq_true] at hA
  have f : ∀ q, q ∈ [1134, 1135, 1136, 1137, 1138, 1139, 1140, 1141, 1142] → A.contains q = false := fun q hq => by
    have := hA q hq
    rw [Bool.not_eq_true'] at this
    exact this
  unfold mv_H mv_E mv_W at *
  rw [kq_a K 1134 (f _ (by decide)), kq_a K 1135 (f _ (by decide)), kq_a K 1136 (f _ (by decide)), kq_a K 1137 (f _ (by decide)), kq_a K 1138 (f _ (by decide)), kq_a K 1139 (f _ (by decide)), kq_b K 1140 (f _ (by decide)), kq_b K 1141 (f _ (by decide)), kq_b K 1142 (f _ (by decide))]
  exact H
theorem mv_W_po {s s' : ps_S} {at' to : Nat} {l : List Nat} (h : mv_W s at' l) (P : mv_po to s s') (hl : at' + 40 < to ∨ to + 40 < at') : mv_W s' at' l := by
  obtain ⟨h1, h2, h3⟩ := h
  refine ⟨by rw [P at' (by omega)]; exact h1, h2, fun k c hk => ?_⟩
  have hk2 := (List.getElem?_eq_some_iff.mp hk).1
  rw [P (at' + 1 + k) (by omega)]
  exact h3 k c hk
theorem mv_H_row {s s' : ps_S} {rb m : Nat} {h : tx_H} (H : mv_H s rb h) (hm : h.2.length ≤ m) (F : mv_fr2 (21812 + 41 * (8 * rb + m)) s s') : mv_H s' rb h := by
  obtain ⟨e1, e2, e3, e4⟩ := H
  refine ⟨mv_E_kq e1 F.1 (by decide), by rw [kq_a F.1 1137 (by decide)]; exact e2, e3, fun k w l hk => ?_⟩
  obtain ⟨z1, z2, z3⟩ := e4 k w l hk
  have hl := (List.getElem?_eq_some_iff.mp hk).1
  exact ⟨z1, by rw [kq_b F.1 1142 (by decide)]; exact z2, mv_W_po z3 F.2 (by omega)⟩
/-- at a line of a theory's text -/
def mv_L (s : ps_S) (rb : Nat) (T : Nat → Nat) (N : Nat) (h : tx_H) (p : Nat) : Prop := rb < 2 ∧ (ps_i s 1131 22).toInt = rb ∧ mv_T s T N ∧ mv_H s rb h ∧ p ≤ N ∧ mv_K s (tx_tok T N p) ∧ (ps_i s 1131 23).toInt = 0 ∧ mv_G s
theorem mv_L_adv {s s' : ps_S} {rb : Nat} {T : Nat → Nat} {N : Nat} {h : tx_H} {p q : Nat} (L : mv_L s rb T N h p) (hq : q ≤ N) (A : mv_A T N q s s') : mv_L s' rb T N h q := by
  obtain ⟨l1, l2, l3, l4, l5, l6, l7, l8⟩ := L
  obtain ⟨K, k⟩ := A
  exact ⟨l1, by rw [kq_i K 22 (by decide)]; exact l2, mv_T_kq l3 K (by decide) (by decide), mv_H_kq l4 K (by decide), hq, k, by rw [kq_i K 23 (by decide)]; exact l7, mv_G_kq l8 K (by decide) (by decide)⟩
def mr_ok (rb : Nat) (s s' : ps_S) (T : Nat → Nat) (N : Nat) (d : tx_D4) : Prop := ∃ h' p', d = (0, h', p', 0) ∧ mv_L s' rb T N h' p' ∧ mv_bk rb s s'
def mr_bad (rb : Nat) (s s' : ps_S) (d : tx_D4) : Prop := ∃ (h' : tx_H) (pl k : Nat), d = (4, h', pl, k) ∧ k ≠ 0 ∧ (ps_i s' 1131 5).toInt = k ∧ (ps_i s' 1131 6).toInt = pl ∧ mv_bk rb s s'
/-- a fault stands, whatever else is done -/
def mr_f (rb : Nat) (s s' : ps_S) (k pl : Nat) : Prop := k ≠ 0 ∧ (ps_i s' 1131 5).toInt = k ∧ (ps_i s' 1131 6).toInt = pl ∧ mv_bk rb s s'
theorem mr_f_tr {rb k pl : Nat} {s s1 s2 : ps_S} (h : mr_f rb s s1 k pl) (F : mv_bk rb s1 s2) (h5 : ps_i s2 1131 5 = ps_i s1 1131 5) (h6 : ps_i s2 1131 6 = ps_i s1 1131 6) : mr_f rb s s2 k pl := ⟨h.1, by rw [h5]; exact h.2.1, by rw [h6]; exact h.2.2.1, mv_bk_tr h.2.2.2 F⟩
theorem mr_f_mis {rb : Nat} {s s1 s' : ps_S} {tk : tx_K} (F : mv_bk rb s s1) (h5 : (ps_i s' 1131 5).toInt = (tx_bk tk : Nat)) (h6 : (ps_i s' 1131 6).toInt = tk.2.1) (K : kq [] [5, 6] s1 s') : mr_f rb s s' (tx_bk tk) tk.2.1 := ⟨(by unfold tx_bk; split <;> decide), h5, h6, mv_bk_tr F (mv_bk_kq K (by decide) (by decide))⟩
