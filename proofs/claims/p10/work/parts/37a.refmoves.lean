/-! the reference's reader: what stands fixed while a formula is read, what moves -/
/-- a bank's tables -/
def mv_E (s : ps_S) (rb : Nat) (g : tx_g) : Prop := (ps_a s 1135 rb).toInt = g.1.length ∧ (ps_a s 1136 rb).toInt = g.2.length ∧ g.1.length ≤ 6 ∧ g.2.length ≤ 4 ∧ (∀ (k : Nat) (w : List Nat) (a : Nat), g.1[k]? = some (w, a) → tx_w w ∧ a ≤ 2 ∧ ps_b s 1140 (6 * rb + k) = tx_m w ∧ (ps_a s 1138 (6 * rb + k)).toInt = a) ∧ ∀ (k : Nat) (w : List Nat) (a : Nat), g.2[k]? = some (w, a) → tx_w w ∧ a ≤ 2 ∧ ps_b s 1141 (4 * rb + k) = tx_m w ∧ (ps_a s 1139 (4 * rb + k)).toInt = a
theorem mv_E_kq {A F : List Nat} {s s' : ps_S} {rb : Nat} {g : tx_g} (h : mv_E s rb g) (K : kq A F s s') (hA : [1135, 1136, 1138, 1139, 1140, 1141].all (fun q => !A.contains q) = true) : mv_E s' rb g := by
  rw [List.all_eq_true] at hA
  have f : ∀ q, q ∈ [1135, 1136, 1138, 1139, 1140, 1141] → A.contains q = false := fun q hq => by
    have := hA q hq
    rw [Bool.not_eq_true'] at this
    exact this
  unfold mv_E at *
  rw [kq_a K 1135 (f _ (by decide)), kq_a K 1136 (f _ (by decide)), kq_a K 1138 (f _ (by decide)), kq_a K 1139 (f _ (by decide)), kq_b K 1140 (f _ (by decide)), kq_b K 1141 (f _ (by decide))]
  exact h
/-- the cells and fields that reading a row may change; of the pool only the row's own -/
def mA : List Nat := [1134, 1143, 1144, 1145, 1146, 1147, 1148]
def mF : List Nat := [5, 6, 7, 8, 9, 10, 11, 23, 29, 30, 31]
def mv_po (to : Nat) (s s' : ps_S) : Prop := ∀ i, (i < to ∨ to + 40 < i) → ps_a s' 1134 i = ps_a s 1134 i
def mv_fr (to : Nat) (s s' : ps_S) : Prop := kq mA mF s s' ∧ mv_po to s s'
theorem mv_fr_refl {to : Nat} {s : ps_S} : mv_fr to s s := ⟨kq_refl, fun _ _ => rfl⟩
theorem mv_fr_tr {to : Nat} {s s1 s2 : ps_S} (h : mv_fr to s s1) (g : mv_fr to s1 s2) : mv_fr to s s2 := ⟨kqt h.1 g.1 (by decide) (by decide), fun i hi => (g.2 i hi).trans (h.2 i hi)⟩
theorem mv_fr_kq {A F : List Nat} {to : Nat} {s s' : ps_S} (h : kq A F s s') (hA : A.all (fun a => [1143, 1144, 1145, 1146, 1147, 1148].contains a) = true) (hF : F.all (fun a => mF.contains a) = true) : mv_fr to s s' := by
  have h2 : kq [1143, 1144, 1145, 1146, 1147, 1148] mF s s' := kqt kq_refl h hA hF
  exact ⟨kqt kq_refl h2 (by decide) (by decide), fun i _ => by rw [kq_a h2 1134 (by decide)]⟩
def mv_S (rb : Nat) (s : ps_S) (T : Nat → Nat) (N : Nat) (E : tx_E) : Prop := rb < 2 ∧ (ps_i s 1131 22).toInt = rb ∧ (ps_i s 1131 32).toInt = (if E.2 = true then 1 else 0) ∧ mv_T s T N ∧ mv_E s rb E.1
theorem mv_S_fr {rb to : Nat} {s s' : ps_S} {T : Nat → Nat} {N : Nat} {E : tx_E} (h : mv_S rb s T N E) (F : mv_fr to s s') : mv_S rb s' T N E := by
  obtain ⟨h1, h2, h3, h4, h5⟩ := h
  exact ⟨h1, by rw [kq_i F.1 22 (by decide)]; exact h2, by rw [kq_i F.1 32 (by decide)]; exact h3, mv_T_kq h4 F.1 (by decide) (by decide), mv_E_kq h5 F.1 (by decide)⟩
/-- a frame, as it lies at the place i -/
def mv_f (s : ps_S) (i : Nat) (f : tx_F) : Prop := (ps_a s 1144 i).toInt = f.1 ∧ (ps_a s 1145 i).toInt = (if f.2.1 = true then 0 else 1) ∧ (ps_a s 1146 i).toInt = (if f.2.2.1 = true then 1 else 0) ∧ ((f.2.2.2 = none ∧ (ps_a s 1147 i).toInt = 0) ∨ ∃ x, f.2.2.2 = some x ∧ (ps_a s 1147 i).toInt = 1 ∧ tx_w x ∧ ps_b s 1148 i = tx_m x)
def mv_B (s : ps_S) (S : List tx_F) : Prop := (ps_i s 1131 29).toInt = S.length ∧ ∀ (k : Nat) (f : tx_F), S[k]? = some f → mv_f s (S.length - 1 - k) f
theorem mv_B_kq {A F : List Nat} {s s' : ps_S} {S : List tx_F} (h : mv_B s S) (K : kq A F s s') (hA : [1144, 1145, 1146, 1147, 1148].all (fun q => !A.contains q) = true) (hF : F.contains 29 = false) : mv_B s' S := by
  rw [List.all_eq_true] at hA
  have f : ∀ q, q ∈ [1144, 1145, 1146, 1147, 1148] → A.contains q = false := fun q hq => by
    have := hA q hq
    rw [Bool.not_eq_true'] at this
    exact this
  unfold mv_B mv_f at *
  rw [kq_i K 29 hF, kq_a K 1144 (f _ (by decide)), kq_a K 1145 (f _ (by decide)), kq_a K 1146 (f _ (by decide)), kq_a K 1147 (f _ (by decide)), kq_b K 1148 (f _ (by decide))]
  exact h
def mv_W (s : ps_S) (to : Nat) (l : List Nat) : Prop := (ps_a s 1134 to).toInt = l.length ∧ l.length ≤ 40 ∧ ∀ (k c : Nat), l[k]? = some c → (ps_a s 1134 (to + 1 + k)).toInt = c
theorem mv_W_kq {A F : List Nat} {s s' : ps_S} {to : Nat} {l : List Nat} (h : mv_W s to l) (K : kq A F s s') (hA : A.contains 1134 = false) : mv_W s' to l := by
  unfold mv_W at *
  rw [kq_a K 1134 hA]
  exact h
def mv_P (s : ps_S) (fr : List (List Nat)) : Prop := (ps_i s 1131 23).toInt = fr.length ∧ fr.length ≤ 12 ∧ ∀ (k : Nat) (w : List Nat), fr[k]? = some w → tx_w w ∧ ps_b s 1143 k = tx_m w
theorem mv_P_kq {A F : List Nat} {s s' : ps_S} {fr : List (List Nat)} (h : mv_P s fr) (K : kq A F s s') (hA : A.contains 1143 = false) (hF : F.contains 23 = false) : mv_P s' fr := by
  unfold mv_P at *
  rw [kq_i K 23 hF, kq_b K 1143 hA]
  exact h
/-- no fault so far -/
def mv_G (s : ps_S) : Prop := (ps_i s 1131 5).toInt = 0 ∧ (ps_i s 1131 6).toInt = -1
theorem mv_G_kq {A F : List Nat} {s s' : ps_S} (h : mv_G s) (K : kq A F s s') (h5 : F.contains 5 = false) (h6 : F.contains 6 = false) : mv_G s' := by
  unfold mv_G at *
  rw [kq_i K 5 h5, kq_i K 6 h6]
  exact h
/-- moving -/
def mv_C (to : Nat) (s : ps_S) (T : Nat → Nat) (N : Nat) (S : List tx_F) (p : Nat) (l : List Nat) (fr : List (List Nat)) : Prop := p ≤ N ∧ (S.length ≤ 13 ∧ l.length + tx_due S ≤ 40) ∧ mv_K s (tx_tok T N p) ∧ mv_B s S ∧ (ps_i s 1131 30).toInt = (tx_bs S).length ∧ (ps_i s 1131 31).toInt = (l.length + tx_due S : Nat) ∧ mv_W s to l ∧ mv_P s fr ∧ mv_G s
/-- a fault stands -/
def mv_bad (to : Nat) (s s' : ps_S) (k pl : Nat) : Prop := k ≠ 0 ∧ (ps_i s' 1131 5).toInt = k ∧ (ps_i s' 1131 6).toInt = pl ∧ mv_fr to s s'
theorem xm01 {x c : Int32} {rb : Nat} (h : x.toInt = rb) (hr : rb < 2) : (c * x).toInt = c.toInt * rb := by
  rcases (show rb = 0 ∨ rb = 1 from by omega) with e | e
  · have hx : x = 0 := Int32.toInt_inj.mp (by rw [h, e]; rfl)
    rw [hx, e, Int32.mul_zero]
    show (0 : Int32).toInt = _
    rw [Int32.toInt_zero]
    simp
  · have hx : x = 1 := Int32.toInt_inj.mp (by rw [h, e]; rfl)
    rw [hx, e, Int32.mul_one]
    simp
theorem mv_E_rel {s : ps_S} {rb : Nat} {g : tx_g} (h : mv_E s rb g) : ∀ k w, (g.1.map Prod.fst)[k]? = some w → tx_w w ∧ ps_b s 1140 (6 * rb + k) = tx_m w := fun k w e => by
  rw [List.getElem?_map] at e
  obtain ⟨q, h1, rfl⟩ := Option.map_eq_some_iff.mp e
  obtain ⟨z1, z2, z3, z4⟩ := h.2.2.2.2.1 k q.1 q.2 h1
  exact ⟨z1, z3⟩
theorem mv_E_fun {s : ps_S} {rb : Nat} {g : tx_g} (h : mv_E s rb g) : ∀ k w, (g.2.map Prod.fst)[k]? = some w → tx_w w ∧ ps_b s 1141 (4 * rb + k) = tx_m w := fun k w e => by
  rw [List.getElem?_map] at e
  obtain ⟨q, h1, rfl⟩ := Option.map_eq_some_iff.mp e
  obtain ⟨z1, z2, z3, z4⟩ := h.2.2.2.2.2 k q.1 q.2 h1
  exact ⟨z1, z3⟩
