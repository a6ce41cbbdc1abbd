/-! THE REFERENCE'S SIDE: ranges of its fields and arrays, what a call leaves as it was -/
def m_fr : Nat → Option (Int × Int)
  | 3 => some (0, 1600)
  | 4 => some (0, 1600)
  | 5 => some (0, 6)
  | 7 => some (0, 1600)
  | 8 => some (0, 1601)
  | 9 => some (0, 5)
  | 10 => some (0, 9999)
  | 21 => some (0, 1)
  | 22 => some (0, 1)
  | 23 => some (0, 12)
  | 29 => some (0, 16)
  | 31 => some (0, 42)
  | 34 => some (0, 100000)
  | 42 => some (0, 40)
  | 47 => some (0, 40)
  | 48 => some (-1, 40)
  | 50 => some (0, 5)
  | 51 => some (0, 1000)
  | 54 => some (0, 12)
  | 59 => some (0, 40)
  | 60 => some (0, 40)
  | 63 => some (0, 41)
  | 64 => some (0, 41)
  | 65 => some (0, 41)
  | 73 => some (0, 96)
  | _ => none
def m_ar : Nat → Option (Nat × Int × Int)
  | 1135 => some (2, 0, 6)
  | 1136 => some (2, 0, 4)
  | 1137 => some (2, 0, 8)
  | 1138 => some (12, 0, 9999)
  | 1139 => some (8, 0, 9999)
  | 1152 => some (40, 0, 18)
  | 1153 => some (40, -1, 9999)
  | 1154 => some (40, 0, 9999)
  | 1155 => some (40, 0, 9999)
  | 1156 => some (40, 0, 11)
  | 1157 => some (41, 0, 12)
  | 1163 => some (41, 0, 140)
  | 1164 => some (41, 0, 40)
  | 1165 => some (41, 0, 40)
  | 1166 => some (41, 0, 1)
  | 1167 => some (20, -1, 40)
  | 1168 => some (20, 0, 40)
  | 1171 => some (6, 0, 54)
  | 1172 => some (4, 0, 90)
  | 1176 => some (3, -1, 12)
  | _ => none
/-- what every call of the reference keeps: the class's references and tape count, its own ranges -/
def mJ (x : Nat → Nat → Nat) (t : Int32) (s : ps_S) : Prop := s.1.2.2 = x ∧ ps_i s 0 1 = t ∧ (∀ q a b, m_fr q = some (a, b) → a ≤ (ps_i s 1131 q).toInt ∧ (ps_i s 1131 q).toInt ≤ b) ∧ (∀ r n a b, m_ar r = some (n, a, b) → ∀ i, i < n → a ≤ (ps_a s r i).toInt ∧ (ps_a s r i).toInt ≤ b) ∧ (∀ k, k < 666 → 0 ≤ (ps_a s 1134 (41 * k)).toInt ∧ (ps_a s 1134 (41 * k)).toInt ≤ 40)
/-- only the arrays A and the fields F may have changed -/
def kp (A F : List Nat) (s s' : ps_S) : Prop := (∀ r q, (r = 1131 → F.contains q = false) → ps_i s' r q = ps_i s r q ∧ ps_j s' r q = ps_j s r q) ∧ (∀ r, A.contains r = false → ps_a s' r = ps_a s r ∧ ps_b s' r = ps_b s r)
theorem kp_refl {A F : List Nat} {s : ps_S} : kp A F s s := ⟨fun _ _ _ => ⟨rfl, rfl⟩, fun _ _ => ⟨rfl, rfl⟩⟩
theorem kp_i {A F : List Nat} {s s' : ps_S} (h : kp A F s s') (q : Nat) (hq : F.contains q = false) : ps_i s' 1131 q = ps_i s 1131 q := (h.1 1131 q (fun _ => hq)).1
theorem kp_j {A F : List Nat} {s s' : ps_S} (h : kp A F s s') (q : Nat) (hq : F.contains q = false) : ps_j s' 1131 q = ps_j s 1131 q := (h.1 1131 q (fun _ => hq)).2
theorem kp_a {A F : List Nat} {s s' : ps_S} (h : kp A F s s') (r : Nat) (hr : A.contains r = false) (i : Nat) : ps_a s' r i = ps_a s r i := congrFun (h.2 r hr).1 i
theorem kp_b {A F : List Nat} {s s' : ps_S} (h : kp A F s s') (r : Nat) (hr : A.contains r = false) (i : Nat) : ps_b s' r i = ps_b s r i := congrFun (h.2 r hr).2 i
theorem kp_ui {A F : List Nat} {s s' : ps_S} {q : Nat} {v : Int32} (hq : F.contains q = true) (h : kp A F s s') : kp A F s (ps_ui s' 1131 q v) := by
  refine ⟨fun r q' hr => ?_, h.2⟩
  obtain ⟨h1, h2⟩ := h.1 r q' hr
  refine ⟨?_, h2⟩
  rw [← h1, ps_i_ui, if_neg]
  rintro ⟨rfl, rfl⟩
  rw [hr rfl] at hq
  cases hq
theorem kp_uj {A F : List Nat} {s s' : ps_S} {q : Nat} {v : Int64} (hq : F.contains q = true) (h : kp A F s s') : kp A F s (ps_uj s' 1131 q v) := by
  refine ⟨fun r q' hr => ?_, h.2⟩
  obtain ⟨h1, h2⟩ := h.1 r q' hr
  refine ⟨h1, ?_⟩
  rw [← h2, ps_j_uj, if_neg]
  rintro ⟨rfl, rfl⟩
  rw [hr rfl] at hq
  cases hq
theorem kp_ua {A F : List Nat} {s s' : ps_S} {r i : Nat} {v : Int32} (hr : A.contains r = true) (h : kp A F s s') : kp A F s (ps_ua s' r i v) := by
  refine ⟨h.1, fun r' hr' => ?_⟩
  obtain ⟨h1, h2⟩ := h.2 r' hr'
  refine ⟨?_, h2⟩
  rw [← h1]
  funext j
  rw [ps_a_ua, if_neg]
  rintro ⟨rfl, rfl⟩
  rw [hr'] at hr
  cases hr
theorem kp_ub {A F : List Nat} {s s' : ps_S} {r i : Nat} {v : Int64} (hr : A.contains r = true) (h : kp A F s s') : kp A F s (ps_ub s' r i v) := by
  refine ⟨h.1, fun r' hr' => ?_⟩
  obtain ⟨h1, h2⟩ := h.2 r' hr'
  refine ⟨h1, ?_⟩
  rw [← h2]
  funext j
  rw [ps_b_ub, if_neg]
  rintro ⟨rfl, rfl⟩
  rw [hr'] at hr
  cases hr
theorem kp_sub {A A' : List Nat} (h : A'.all (fun a => A.contains a) = true) {q : Nat} (hq : A.contains q = false) : A'.contains q = false := by
  cases e : A'.contains q with
  | false => rfl
  | true =>
    have := List.all_eq_true.mp h q (List.contains_iff_mem.mp e)
    rw [hq] at this
    cases this
theorem kp_tr {A F A' F' : List Nat} {s s' s'' : ps_S} (hA : A'.all (fun a => A.contains a) = true) (hF : F'.all (fun a => F.contains a) = true) (h : kp A F s s') (h' : kp A' F' s' s'') : kp A F s s'' := by
  refine ⟨fun r q hr => ?_, fun r hr => ?_⟩
  · obtain ⟨h1, h2⟩ := h.1 r q hr
    obtain ⟨h3, h4⟩ := h'.1 r q (fun e => kp_sub hF (hr e))
    exact ⟨h3.trans h1, h4.trans h2⟩
  · obtain ⟨h1, h2⟩ := h.2 r hr
    obtain ⟨h3, h4⟩ := h'.2 r (kp_sub hA hr)
    exact ⟨h3.trans h1, h4.trans h2⟩
theorem mw_i {x : Nat → Nat → Nat} {t : Int32} {s : ps_S} {q : Nat} {v : Int32} (J : mJ x t s) (h : ∀ a b, m_fr q = some (a, b) → a ≤ v.toInt ∧ v.toInt ≤ b) : mJ x t (ps_ui s 1131 q v) := by
  obtain ⟨h1, h2, h3, h4, h5⟩ := J
  refine ⟨h1, ?_, fun q' a b e => ?_, h4, h5⟩
  · rw [ps_i_ui, if_neg (fun z => by omega)]; exact h2
  · rw [ps_i_ui]
    by_cases e' : q' = q
    · subst e'
      rw [if_pos ⟨rfl, rfl⟩]
      exact h a b e
    · rw [if_neg (fun z => e' z.2)]
      exact h3 q' a b e
theorem mwi_n {x : Nat → Nat → Nat} {t : Int32} {s : ps_S} (q : Nat) {v : Int32} (J : mJ x t s) (h : m_fr q = none) : mJ x t (ps_ui s 1131 q v) := mw_i J (fun a b e => by rw [h] at e; cases e)
theorem mw_j {x : Nat → Nat → Nat} {t : Int32} {s : ps_S} {q : Nat} {v : Int64} (J : mJ x t s) : mJ x t (ps_uj s 1131 q v) := J
theorem mw_b {x : Nat → Nat → Nat} {t : Int32} {s : ps_S} {r i : Nat} {v : Int64} (J : mJ x t s) : mJ x t (ps_ub s r i v) := J
theorem mw_a {x : Nat → Nat → Nat} {t : Int32} {s : ps_S} {r i : Nat} {v : Int32} (J : mJ x t s) (hr : r ≠ 1134) (h : ∀ n a b, m_ar r = some (n, a, b) → a ≤ v.toInt ∧ v.toInt ≤ b) : mJ x t (ps_ua s r i v) := by
  obtain ⟨h1, h2, h3, h4, h5⟩ := J
  refine ⟨h1, h2, h3, fun r' n a b e j hj => ?_, fun k hk => ?_⟩
  · rw [ps_a_ua]
    by_cases e' : r' = r ∧ j = i
    · rw [if_pos e']
      rw [e'.1] at e
      exact h n a b e
    · rw [if_neg e']
      exact h4 r' n a b e j hj
  · rw [ps_a_ua, if_neg (fun z => hr z.1.symm)]
    exact h5 k hk
theorem mwa_n {x : Nat → Nat → Nat} {t : Int32} {s : ps_S} (r : Nat) {i : Nat} {v : Int32} (J : mJ x t s) (h : m_ar r = none) (hr : r ≠ 1134) : mJ x t (ps_ua s r i v) := mw_a J hr (fun n a b e => by rw [h] at e; cases e)
theorem mw_p {x : Nat → Nat → Nat} {t : Int32} {s : ps_S} {i v : Int32} (J : mJ x t s) (h : i.toInt % 41 = 0 → 0 ≤ v.toInt ∧ v.toInt ≤ 40) (hi : 0 ≤ i.toInt) : mJ x t (ps_ua s 1134 (Int32.toNatClampNeg i) v) := by
  obtain ⟨h1, h2, h3, h4, h5⟩ := J
  have hi2 : ((Int32.toNatClampNeg i : Nat) : Int) = i.toInt := by
    show ((i.toInt.toNat : Nat) : Int) = _
    omega
  refine ⟨h1, h2, h3, fun r n a b e j hj => ?_, fun k hk => ?_⟩
  · have : r ≠ 1134 := fun z => by rw [z] at e; cases e
    rw [ps_a_ua, if_neg (fun z => this z.1)]
    exact h4 r n a b e j hj
  · rw [ps_a_ua]
    split
    · next z => exact h (by omega)
    · exact h5 k hk
theorem mp_row {x : Nat → Nat → Nat} {t : Int32} {s : ps_S} {i : Int32} (J : mJ x t s) (h : i.toInt % 41 = 0) (h0 : 0 ≤ i.toInt) (h1 : i.toInt < 27306) : 0 ≤ (ps_a s 1134 (Int32.toNatClampNeg i)).toInt ∧ (ps_a s 1134 (Int32.toNatClampNeg i)).toInt ≤ 40 := by
  have e : Int32.toNatClampNeg i = 41 * (i.toInt / 41).toNat := by
    show i.toInt.toNat = _
    omega
  rw [e]
  exact J.2.2.2.2 _ (by omega)
theorem mf_3 {x : Nat → Nat → Nat} {t : Int32} {s : ps_S} (J : mJ x t s) : 0 ≤ (ps_i s 1131 3).toInt ∧ (ps_i s 1131 3).toInt ≤ 1600 := J.2.2.1 3 _ _ rfl
theorem mwi_3 {x : Nat → Nat → Nat} {t : Int32} {s : ps_S} {v : Int32} (J : mJ x t s) (h1 : 0 ≤ v.toInt) (h2 : v.toInt ≤ 1600) : mJ x t (ps_ui s 1131 3 v) := mw_i J (fun a b e => by cases e; exact ⟨h1, h2⟩)
theorem mf_4 {x : Nat → Nat → Nat} {t : Int32} {s : ps_S} (J : mJ x t s) : 0 ≤ (ps_i s 1131 4).toInt ∧ (ps_i s 1131 4).toInt ≤ 1600 := J.2.2.1 4 _ _ rfl
theorem mwi_4 {x : Nat → Nat → Nat} {t : Int32} {s : ps_S} {v : Int32} (J : mJ x t s) (h1 : 0 ≤ v.toInt) (h2 : v.toInt ≤ 1600) : mJ x t (ps_ui s 1131 4 v) := mw_i J (fun a b e => by cases e; exact ⟨h1, h2⟩)
theorem mf_5 {x : Nat → Nat → Nat} {t : Int32} {s : ps_S} (J : mJ x t s) : 0 ≤ (ps_i s 1131 5).toInt ∧ (ps_i s 1131 5).toInt ≤ 6 := J.2.2.1 5 _ _ rfl
theorem mwi_5 {x : Nat → Nat → Nat} {t : Int32} {s : ps_S} {v : Int32} (J : mJ x t s) (h1 : 0 ≤ v.toInt) (h2 : v.toInt ≤ 6) : mJ x t (ps_ui s 1131 5 v) := mw_i J (fun a b e => by cases e; exact ⟨h1, h2⟩)
theorem mf_7 {x : Nat → Nat → Nat} {t : Int32} {s : ps_S} (J : mJ x t s) : 0 ≤ (ps_i s 1131 7).toInt ∧ (ps_i s 1131 7).toInt ≤ 1600 := J.2.2.1 7 _ _ rfl
theorem mwi_7 {x : Nat → Nat → Nat} {t : Int32} {s : ps_S} {v : Int32} (J : mJ x t s) (h1 : 0 ≤ v.toInt) (h2 : v.toInt ≤ 1600) : mJ x t (ps_ui s 1131 7 v) := mw_i J (fun a b e => by cases e; exact ⟨h1, h2⟩)
theorem mf_8 {x : Nat → Nat → Nat} {t : Int32} {s : ps_S} (J : mJ x t s) : 0 ≤ (ps_i s 1131 8).toInt ∧ (ps_i s 1131 8).toInt ≤ 1601 := J.2.2.1 8 _ _ rfl
theorem mwi_8 {x : Nat → Nat → Nat} {t : Int32} {s : ps_S} {v : Int32} (J : mJ x t s) (h1 : 0 ≤ v.toInt) (h2 : v.toInt ≤ 1601) : mJ x t (ps_ui s 1131 8 v) := mw_i J (fun a b e => by cases e; exact ⟨h1, h2⟩)
theorem mf_9 {x : Nat → Nat → Nat} {t : Int32} {s : ps_S} (J : mJ x t s) : 0 ≤ (ps_i s 1131 9).toInt ∧ (ps_i s 1131 9).toInt ≤ 5 := J.2.2.1 9 _ _ rfl
theorem mwi_9 {x : Nat → Nat → Nat} {t : Int32} {s : ps_S} {v : Int32} (J : mJ x t s) (h1 : 0 ≤ v.toInt) (h2 : v.toInt ≤ 5) : mJ x t (ps_ui s 1131 9 v) := mw_i J (fun a b e => by cases e; exact ⟨h1, h2⟩)
theorem mf_10 {x : Nat → Nat → Nat} {t : Int32} {s : ps_S} (J : mJ x t s) : 0 ≤ (ps_i s 1131 10).toInt ∧ (ps_i s 1131 10).toInt ≤ 9999 := J.2.2.1 10 _ _ rfl
theorem mwi_10 {x : Nat → Nat → Nat} {t : Int32} {s : ps_S} {v : Int32} (J : mJ x t s) (h1 : 0 ≤ v.toInt) (h2 : v.toInt ≤ 9999) : mJ x t (ps_ui s 1131 10 v) := mw_i J (fun a b e => by cases e; exact ⟨h1, h2⟩)
theorem mf_21 {x : Nat → Nat → Nat} {t : Int32} {s : ps_S} (J : mJ x t s) : 0 ≤ (ps_i s 1131 21).toInt ∧ (ps_i s 1131 21).toInt ≤ 1 := J.2.2.1 21 _ _ rfl
theorem mwi_21 {x : Nat → Nat → Nat} {t : Int32} {s : ps_S} {v : Int32} (J : mJ x t s) (h1 : 0 ≤ v.toInt) (h2 : v.toInt ≤ 1) : mJ x t (ps_ui s 1131 21 v) := mw_i J (fun a b e => by cases e; exact ⟨h1, h2⟩)
theorem mf_22 {x : Nat → Nat → Nat} {t : Int32} {s : ps_S} (J : mJ x t s) : 0 ≤ (ps_i s 1131 22).toInt ∧ (ps_i s 1131 22).toInt ≤ 1 := J.2.2.1 22 _ _ rfl
theorem mwi_22 {x : Nat → Nat → Nat} {t : Int32} {s : ps_S} {v : Int32} (J : mJ x t s) (h1 : 0 ≤ v.toInt) (h2 : v.toInt ≤ 1) : mJ x t (ps_ui s 1131 22 v) := mw_i J (fun a b e => by cases e; exact ⟨h1, h2⟩)
theorem mf_23 {x : Nat → Nat → Nat} {t : Int32} {s : ps_S} (J : mJ x t s) : 0 ≤ (ps_i s 1131 23).toInt ∧ (ps_i s 1131 23).toInt ≤ 12 := J.2.2.1 23 _ _ rfl
theorem mwi_23 {x : Nat → Nat → Nat} {t : Int32} {s : ps_S} {v : Int32} (J : mJ x t s) (h1 : 0 ≤ v.toInt) (h2 : v.toInt ≤ 12) : mJ x t (ps_ui s 1131 23 v) := mw_i J (fun a b e => by cases e; exact ⟨h1, h2⟩)
theorem mf_29 {x : Nat → Nat → Nat} {t : Int32} {s : ps_S} (J : mJ x t s) : 0 ≤ (ps_i s 1131 29).toInt ∧ (ps_i s 1131 29).toInt ≤ 16 := J.2.2.1 29 _ _ rfl
theorem mwi_29 {x : Nat → Nat → Nat} {t : Int32} {s : ps_S} {v : Int32} (J : mJ x t s) (h1 : 0 ≤ v.toInt) (h2 : v.toInt ≤ 16) : mJ x t (ps_ui s 1131 29 v) := mw_i J (fun a b e => by cases e; exact ⟨h1, h2⟩)
theorem mf_31 {x : Nat → Nat → Nat} {t : Int32} {s : ps_S} (J : mJ x t s) : 0 ≤ (ps_i s 1131 31).toInt ∧ (ps_i s 1131 31).toInt ≤ 42 := J.2.2.1 31 _ _ rfl
theorem mwi_31 {x : Nat → Nat → Nat} {t : Int32} {s : ps_S} {v : Int32} (J : mJ x t s) (h1 : 0 ≤ v.toInt) (h2 : v.toInt ≤ 42) : mJ x t (ps_ui s 1131 31 v) := mw_i J (fun a b e => by cases e; exact ⟨h1, h2⟩)
theorem mf_34 {x : Nat → Nat → Nat} {t : Int32} {s : ps_S} (J : mJ x t s) : 0 ≤ (ps_i s 1131 34).toInt ∧ (ps_i s 1131 34).toInt ≤ 100000 := J.2.2.1 34 _ _ rfl
theorem mwi_34 {x : Nat → Nat → Nat} {t : Int32} {s : ps_S} {v : Int32} (J : mJ x t s) (h1 : 0 ≤ v.toInt) (h2 : v.toInt ≤ 100000) : mJ x t (ps_ui s 1131 34 v) := mw_i J (fun a b e => by cases e; exact ⟨h1, h2⟩)
theorem mf_42 {x : Nat → Nat → Nat} {t : Int32} {s : ps_S} (J : mJ x t s) : 0 ≤ (ps_i s 1131 42).toInt ∧ (ps_i s 1131 42).toInt ≤ 40 := J.2.2.1 42 _ _ rfl
theorem mwi_42 {x : Nat → Nat → Nat} {t : Int32} {s : ps_S} {v : Int32} (J : mJ x t s) (h1 : 0 ≤ v.toInt) (h2 : v.toInt ≤ 40) : mJ x t (ps_ui s 1131 42 v) := mw_i J (fun a b e => by cases e; exact ⟨h1, h2⟩)
theorem mf_47 {x : Nat → Nat → Nat} {t : Int32} {s : ps_S} (J : mJ x t s) : 0 ≤ (ps_i s 1131 47).toInt ∧ (ps_i s 1131 47).toInt ≤ 40 := J.2.2.1 47 _ _ rfl
theorem mwi_47 {x : Nat → Nat → Nat} {t : Int32} {s : ps_S} {v : Int32} (J : mJ x t s) (h1 : 0 ≤ v.toInt) (h2 : v.toInt ≤ 40) : mJ x t (ps_ui s 1131 47 v) := mw_i J (fun a b e => by cases e; exact ⟨h1, h2⟩)
theorem mf_48 {x : Nat → Nat → Nat} {t : Int32} {s : ps_S} (J : mJ x t s) : -1 ≤ (ps_i s 1131 48).toInt ∧ (ps_i s 1131 48).toInt ≤ 40 := J.2.2.1 48 _ _ rfl
theorem mwi_48 {x : Nat → Nat → Nat} {t : Int32} {s : ps_S} {v : Int32} (J : mJ x t s) (h1 : -1 ≤ v.toInt) (h2 : v.toInt ≤ 40) : mJ x t (ps_ui s 1131 48 v) := mw_i J (fun a b e => by cases e; exact ⟨h1, h2⟩)
theorem mf_50 {x : Nat → Nat → Nat} {t : Int32} {s : ps_S} (J : mJ x t s) : 0 ≤ (ps_i s 1131 50).toInt ∧ (ps_i s 1131 50).toInt ≤ 5 := J.2.2.1 50 _ _ rfl
theorem mwi_50 {x : Nat → Nat → Nat} {t : Int32} {s : ps_S} {v : Int32} (J : mJ x t s) (h1 : 0 ≤ v.toInt) (h2 : v.toInt ≤ 5) : mJ x t (ps_ui s 1131 50 v) := mw_i J (fun a b e => by cases e; exact ⟨h1, h2⟩)
theorem mf_51 {x : Nat → Nat → Nat} {t : Int32} {s : ps_S} (J : mJ x t s) : 0 ≤ (ps_i s 1131 51).toInt ∧ (ps_i s 1131 51).toInt ≤ 1000 := J.2.2.1 51 _ _ rfl
theorem mwi_51 {x : Nat → Nat → Nat} {t : Int32} {s : ps_S} {v : Int32} (J : mJ x t s) (h1 : 0 ≤ v.toInt) (h2 : v.toInt ≤ 1000) : mJ x t (ps_ui s 1131 51 v) := mw_i J (fun a b e => by cases e; exact ⟨h1, h2⟩)
theorem mf_54 {x : Nat → Nat → Nat} {t : Int32} {s : ps_S} (J : mJ x t s) : 0 ≤ (ps_i s 1131 54).toInt ∧ (ps_i s 1131 54).toInt ≤ 12 := J.2.2.1 54 _ _ rfl
theorem mwi_54 {x : Nat → Nat → Nat} {t : Int32} {s : ps_S} {v : Int32} (J : mJ x t s) (h1 : 0 ≤ v.toInt) (h2 : v.toInt ≤ 12) : mJ x t (ps_ui s 1131 54 v) := mw_i J (fun a b e => by cases e; exact ⟨h1, h2⟩)
theorem mf_59 {x : Nat → Nat → Nat} {t : Int32} {s : ps_S} (J : mJ x t s) : 0 ≤ (ps_i s 1131 59).toInt ∧ (ps_i s 1131 59).toInt ≤ 40 := J.2.2.1 59 _ _ rfl
theorem mwi_59 {x : Nat → Nat → Nat} {t : Int32} {s : ps_S} {v : Int32} (J : mJ x t s) (h1 : 0 ≤ v.toInt) (h2 : v.toInt ≤ 40) : mJ x t (ps_ui s 1131 59 v) := mw_i J (fun a b e => by cases e; exact ⟨h1, h2⟩)
theorem mf_60 {x : Nat → Nat → Nat} {t : Int32} {s : ps_S} (J : mJ x t s) : 0 ≤ (ps_i s 1131 60).toInt ∧ (ps_i s 1131 60).toInt ≤ 40 := J.2.2.1 60 _ _ rfl
theorem mwi_60 {x : Nat → Nat → Nat} {t : Int32} {s : ps_S} {v : Int32} (J : mJ x t s) (h1 : 0 ≤ v.toInt) (h2 : v.toInt ≤ 40) : mJ x t (ps_ui s 1131 60 v) := mw_i J (fun a b e => by cases e; exact ⟨h1, h2⟩)
theorem mf_63 {x : Nat → Nat → Nat} {t : Int32} {s : ps_S} (J : mJ x t s) : 0 ≤ (ps_i s 1131 63).toInt ∧ (ps_i s 1131 63).toInt ≤ 41 := J.2.2.1 63 _ _ rfl
theorem mwi_63 {x : Nat → Nat → Nat} {t : Int32} {s : ps_S} {v : Int32} (J : mJ x t s) (h1 : 0 ≤ v.toInt) (h2 : v.toInt ≤ 41) : mJ x t (ps_ui s 1131 63 v) := mw_i J (fun a b e => by cases e; exact ⟨h1, h2⟩)
theorem mf_64 {x : Nat → Nat → Nat} {t : Int32} {s : ps_S} (J : mJ x t s) : 0 ≤ (ps_i s 1131 64).toInt ∧ (ps_i s 1131 64).toInt ≤ 41 := J.2.2.1 64 _ _ rfl
theorem mwi_64 {x : Nat → Nat → Nat} {t : Int32} {s : ps_S} {v : Int32} (J : mJ x t s) (h1 : 0 ≤ v.toInt) (h2 : v.toInt ≤ 41) : mJ x t (ps_ui s 1131 64 v) := mw_i J (fun a b e => by cases e; exact ⟨h1, h2⟩)
theorem mf_65 {x : Nat → Nat → Nat} {t : Int32} {s : ps_S} (J : mJ x t s) : 0 ≤ (ps_i s 1131 65).toInt ∧ (ps_i s 1131 65).toInt ≤ 41 := J.2.2.1 65 _ _ rfl
theorem mwi_65 {x : Nat → Nat → Nat} {t : Int32} {s : ps_S} {v : Int32} (J : mJ x t s) (h1 : 0 ≤ v.toInt) (h2 : v.toInt ≤ 41) : mJ x t (ps_ui s 1131 65 v) := mw_i J (fun a b e => by cases e; exact ⟨h1, h2⟩)
theorem mf_73 {x : Nat → Nat → Nat} {t : Int32} {s : ps_S} (J : mJ x t s) : 0 ≤ (ps_i s 1131 73).toInt ∧ (ps_i s 1131 73).toInt ≤ 96 := J.2.2.1 73 _ _ rfl
theorem mwi_73 {x : Nat → Nat → Nat} {t : Int32} {s : ps_S} {v : Int32} (J : mJ x t s) (h1 : 0 ≤ v.toInt) (h2 : v.toInt ≤ 96) : mJ x t (ps_ui s 1131 73 v) := mw_i J (fun a b e => by cases e; exact ⟨h1, h2⟩)
theorem ma_1135 {x : Nat → Nat → Nat} {t : Int32} {s : ps_S} {i : Int32} (J : mJ x t s) (h0 : 0 ≤ i.toInt) (h1 : i.toInt < 2) : 0 ≤ (ps_a s 1135 (Int32.toNatClampNeg i)).toInt ∧ (ps_a s 1135 (Int32.toNatClampNeg i)).toInt ≤ 6 := J.2.2.2.1 1135 _ _ _ rfl _ (by show i.toInt.toNat < _; omega)
theorem mwa_1135 {x : Nat → Nat → Nat} {t : Int32} {s : ps_S} {i : Nat} {v : Int32} (J : mJ x t s) (h1 : 0 ≤ v.toInt) (h2 : v.toInt ≤ 6) : mJ x t (ps_ua s 1135 i v) := mw_a J (by decide) (fun n a b e => by cases e; exact ⟨h1, h2⟩)
theorem ma_1136 {x : Nat → Nat → Nat} {t : Int32} {s : ps_S} {i : Int32} (J : mJ x t s) (h0 : 0 ≤ i.toInt) (h1 : i.toInt < 2) : 0 ≤ (ps_a s 1136 (Int32.toNatClampNeg i)).toInt ∧ (ps_a s 1136 (Int32.toNatClampNeg i)).toInt ≤ 4 := J.2.2.2.1 1136 _ _ _ rfl _ (by show i.toInt.toNat < _; omega)
theorem mwa_1136 {x : Nat → Nat → Nat} {t : Int32} {s : ps_S} {i : Nat} {v : Int32} (J : mJ x t s) (h1 : 0 ≤ v.toInt) (h2 : v.toInt ≤ 4) : mJ x t (ps_ua s 1136 i v) := mw_a J (by decide) (fun n a b e => by cases e; exact ⟨h1, h2⟩)
theorem ma_1137 {x : Nat → Nat → Nat} {t : Int32} {s : ps_S} {i : Int32} (J : mJ x t s) (h0 : 0 ≤ i.toInt) (h1 : i.toInt < 2) : 0 ≤ (ps_a s 1137 (Int32.toNatClampNeg i)).toInt ∧ (ps_a s 1137 (Int32.toNatClampNeg i)).toInt ≤ 8 := J.2.2.2.1 1137 _ _ _ rfl _ (by show i.toInt.toNat < _; omega)
theorem mwa_1137 {x : Nat → Nat → Nat} {t : Int32} {s : ps_S} {i : Nat} {v : Int32} (J : mJ x t s) (h1 : 0 ≤ v.toInt) (h2 : v.toInt ≤ 8) : mJ x t (ps_ua s 1137 i v) := mw_a J (by decide) (fun n a b e => by cases e; exact ⟨h1, h2⟩)
theorem ma_1138 {x : Nat → Nat → Nat} {t : Int32} {s : ps_S} {i : Int32} (J : mJ x t s) (h0 : 0 ≤ i.toInt) (h1 : i.toInt < 12) : 0 ≤ (ps_a s 1138 (Int32.toNatClampNeg i)).toInt ∧ (ps_a s 1138 (Int32.toNatClampNeg i)).toInt ≤ 9999 := J.2.2.2.1 1138 _ _ _ rfl _ (by show i.toInt.toNat < _; omega)
theorem mwa_1138 {x : Nat → Nat → Nat} {t : Int32} {s : ps_S} {i : Nat} {v : Int32} (J : mJ x t s) (h1 : 0 ≤ v.toInt) (h2 : v.toInt ≤ 9999) : mJ x t (ps_ua s 1138 i v) := mw_a J (by decide) (fun n a b e => by cases e; exact ⟨h1, h2⟩)
theorem ma_1139 {x : Nat → Nat → Nat} {t : Int32} {s : ps_S} {i : Int32} (J : mJ x t s) (h0 : 0 ≤ i.toInt) (h1 : i.toInt < 8) : 0 ≤ (ps_a s 1139 (Int32.toNatClampNeg i)).toInt ∧ (ps_a s 1139 (Int32.toNatClampNeg i)).toInt ≤ 9999 := J.2.2.2.1 1139 _ _ _ rfl _ (by show i.toInt.toNat < _; omega)
theorem mwa_1139 {x : Nat → Nat → Nat} {t : Int32} {s : ps_S} {i : Nat} {v : Int32} (J : mJ x t s) (h1 : 0 ≤ v.toInt) (h2 : v.toInt ≤ 9999) : mJ x t (ps_ua s 1139 i v) := mw_a J (by decide) (fun n a b e => by cases e; exact ⟨h1, h2⟩)
theorem ma_1152 {x : Nat → Nat → Nat} {t : Int32} {s : ps_S} {i : Int32} (J : mJ x t s) (h0 : 0 ≤ i.toInt) (h1 : i.toInt < 40) : 0 ≤ (ps_a s 1152 (Int32.toNatClampNeg i)).toInt ∧ (ps_a s 1152 (Int32.toNatClampNeg i)).toInt ≤ 18 := J.2.2.2.1 1152 _ _ _ rfl _ (by show i.toInt.toNat < _; omega)
theorem mwa_1152 {x : Nat → Nat → Nat} {t : Int32} {s : ps_S} {i : Nat} {v : Int32} (J : mJ x t s) (h1 : 0 ≤ v.toInt) (h2 : v.toInt ≤ 18) : mJ x t (ps_ua s 1152 i v) := mw_a J (by decide) (fun n a b e => by cases e; exact ⟨h1, h2⟩)
theorem ma_1153 {x : Nat → Nat → Nat} {t : Int32} {s : ps_S} {i : Int32} (J : mJ x t s) (h0 : 0 ≤ i.toInt) (h1 : i.toInt < 40) : -1 ≤ (ps_a s 1153 (Int32.toNatClampNeg i)).toInt ∧ (ps_a s 1153 (Int32.toNatClampNeg i)).toInt ≤ 9999 := J.2.2.2.1 1153 _ _ _ rfl _ (by show i.toInt.toNat < _; omega)
theorem mwa_1153 {x : Nat → Nat → Nat} {t : Int32} {s : ps_S} {i : Nat} {v : Int32} (J : mJ x t s) (h1 : -1 ≤ v.toInt) (h2 : v.toInt ≤ 9999) : mJ x t (ps_ua s 1153 i v) := mw_a J (by decide) (fun n a b e => by cases e; exact ⟨h1, h2⟩)
theorem ma_1154 {x : Nat → Nat → Nat} {t : Int32} {s : ps_S} {i : Int32} (J : mJ x t s) (h0 : 0 ≤ i.toInt) (h1 : i.toInt < 40) : 0 ≤ (ps_a s 1154 (Int32.toNatClampNeg i)).toInt ∧ (ps_a s 1154 (Int32.toNatClampNeg i)).toInt ≤ 9999 := J.2.2.2.1 1154 _ _ _ rfl _ (by show i.toInt.toNat < _; omega)
theorem mwa_1154 {x : Nat → Nat → Nat} {t : Int32} {s : ps_S} {i : Nat} {v : Int32} (J : mJ x t s) (h1 : 0 ≤ v.toInt) (h2 : v.toInt ≤ 9999) : mJ x t (ps_ua s 1154 i v) := mw_a J (by decide) (fun n a b e => by cases e; exact ⟨h1, h2⟩)
theorem ma_1155 {x : Nat → Nat → Nat} {t : Int32} {s : ps_S} {i : Int32} (J : mJ x t s) (h0 : 0 ≤ i.toInt) (h1 : i.toInt < 40) : 0 ≤ (ps_a s 1155 (Int32.toNatClampNeg i)).toInt ∧ (ps_a s 1155 (Int32.toNatClampNeg i)).toInt ≤ 9999 := J.2.2.2.1 1155 _ _ _ rfl _ (by show i.toInt.toNat < _; omega)
theorem mwa_1155 {x : Nat → Nat → Nat} {t : Int32} {s : ps_S} {i : Nat} {v : Int32} (J : mJ x t s) (h1 : 0 ≤ v.toInt) (h2 : v.toInt ≤ 9999) : mJ x t (ps_ua s 1155 i v) := mw_a J (by decide) (fun n a b e => by cases e; exact ⟨h1, h2⟩)
theorem ma_1156 {x : Nat → Nat → Nat} {t : Int32} {s : ps_S} {i : Int32} (J : mJ x t s) (h0 : 0 ≤ i.toInt) (h1 : i.toInt < 40) : 0 ≤ (ps_a s 1156 (Int32.toNatClampNeg i)).toInt ∧ (ps_a s 1156 (Int32.toNatClampNeg i)).toInt ≤ 11 := J.2.2.2.1 1156 _ _ _ rfl _ (by show i.toInt.toNat < _; omega)
theorem mwa_1156 {x : Nat → Nat → Nat} {t : Int32} {s : ps_S} {i : Nat} {v : Int32} (J : mJ x t s) (h1 : 0 ≤ v.toInt) (h2 : v.toInt ≤ 11) : mJ x t (ps_ua s 1156 i v) := mw_a J (by decide) (fun n a b e => by cases e; exact ⟨h1, h2⟩)
theorem ma_1157 {x : Nat → Nat → Nat} {t : Int32} {s : ps_S} {i : Int32} (J : mJ x t s) (h0 : 0 ≤ i.toInt) (h1 : i.toInt < 41) : 0 ≤ (ps_a s 1157 (Int32.toNatClampNeg i)).toInt ∧ (ps_a s 1157 (Int32.toNatClampNeg i)).toInt ≤ 12 := J.2.2.2.1 1157 _ _ _ rfl _ (by show i.toInt.toNat < _; omega)
theorem mwa_1157 {x : Nat → Nat → Nat} {t : Int32} {s : ps_S} {i : Nat} {v : Int32} (J : mJ x t s) (h1 : 0 ≤ v.toInt) (h2 : v.toInt ≤ 12) : mJ x t (ps_ua s 1157 i v) := mw_a J (by decide) (fun n a b e => by cases e; exact ⟨h1, h2⟩)
theorem ma_1163 {x : Nat → Nat → Nat} {t : Int32} {s : ps_S} {i : Int32} (J : mJ x t s) (h0 : 0 ≤ i.toInt) (h1 : i.toInt < 41) : 0 ≤ (ps_a s 1163 (Int32.toNatClampNeg i)).toInt ∧ (ps_a s 1163 (Int32.toNatClampNeg i)).toInt ≤ 140 := J.2.2.2.1 1163 _ _ _ rfl _ (by show i.toInt.toNat < _; omega)
theorem mwa_1163 {x : Nat → Nat → Nat} {t : Int32} {s : ps_S} {i : Nat} {v : Int32} (J : mJ x t s) (h1 : 0 ≤ v.toInt) (h2 : v.toInt ≤ 140) : mJ x t (ps_ua s 1163 i v) := mw_a J (by decide) (fun n a b e => by cases e; exact ⟨h1, h2⟩)
theorem ma_1164 {x : Nat → Nat → Nat} {t : Int32} {s : ps_S} {i : Int32} (J : mJ x t s) (h0 : 0 ≤ i.toInt) (h1 : i.toInt < 41) : 0 ≤ (ps_a s 1164 (Int32.toNatClampNeg i)).toInt ∧ (ps_a s 1164 (Int32.toNatClampNeg i)).toInt ≤ 40 := J.2.2.2.1 1164 _ _ _ rfl _ (by show i.toInt.toNat < _; omega)
theorem mwa_1164 {x : Nat → Nat → Nat} {t : Int32} {s : ps_S} {i : Nat} {v : Int32} (J : mJ x t s) (h1 : 0 ≤ v.toInt) (h2 : v.toInt ≤ 40) : mJ x t (ps_ua s 1164 i v) := mw_a J (by decide) (fun n a b e => by cases e; exact ⟨h1, h2⟩)
theorem ma_1165 {x : Nat → Nat → Nat} {t : Int32} {s : ps_S} {i : Int32} (J : mJ x t s) (h0 : 0 ≤ i.toInt) (h1 : i.toInt < 41) : 0 ≤ (ps_a s 1165 (Int32.toNatClampNeg i)).toInt ∧ (ps_a s 1165 (Int32.toNatClampNeg i)).toInt ≤ 40 := J.2.2.2.1 1165 _ _ _ rfl _ (by show i.toInt.toNat < _; omega)
theorem mwa_1165 {x : Nat → Nat → Nat} {t : Int32} {s : ps_S} {i : Nat} {v : Int32} (J : mJ x t s) (h1 : 0 ≤ v.toInt) (h2 : v.toInt ≤ 40) : mJ x t (ps_ua s 1165 i v) := mw_a J (by decide) (fun n a b e => by cases e; exact ⟨h1, h2⟩)
theorem ma_1166 {x : Nat → Nat → Nat} {t : Int32} {s : ps_S} {i : Int32} (J : mJ x t s) (h0 : 0 ≤ i.toInt) (h1 : i.toInt < 41) : 0 ≤ (ps_a s 1166 (Int32.toNatClampNeg i)).toInt ∧ (ps_a s 1166 (Int32.toNatClampNeg i)).toInt ≤ 1 := J.2.2.2.1 1166 _ _ _ rfl _ (by show i.toInt.toNat < _; omega)
theorem mwa_1166 {x : Nat → Nat → Nat} {t : Int32} {s : ps_S} {i : Nat} {v : Int32} (J : mJ x t s) (h1 : 0 ≤ v.toInt) (h2 : v.toInt ≤ 1) : mJ x t (ps_ua s 1166 i v) := mw_a J (by decide) (fun n a b e => by cases e; exact ⟨h1, h2⟩)
theorem ma_1167 {x : Nat → Nat → Nat} {t : Int32} {s : ps_S} {i : Int32} (J : mJ x t s) (h0 : 0 ≤ i.toInt) (h1 : i.toInt < 20) : -1 ≤ (ps_a s 1167 (Int32.toNatClampNeg i)).toInt ∧ (ps_a s 1167 (Int32.toNatClampNeg i)).toInt ≤ 40 := J.2.2.2.1 1167 _ _ _ rfl _ (by show i.toInt.toNat < _; omega)
theorem mwa_1167 {x : Nat → Nat → Nat} {t : Int32} {s : ps_S} {i : Nat} {v : Int32} (J : mJ x t s) (h1 : -1 ≤ v.toInt) (h2 : v.toInt ≤ 40) : mJ x t (ps_ua s 1167 i v) := mw_a J (by decide) (fun n a b e => by cases e; exact ⟨h1, h2⟩)
theorem ma_1168 {x : Nat → Nat → Nat} {t : Int32} {s : ps_S} {i : Int32} (J : mJ x t s) (h0 : 0 ≤ i.toInt) (h1 : i.toInt < 20) : 0 ≤ (ps_a s 1168 (Int32.toNatClampNeg i)).toInt ∧ (ps_a s 1168 (Int32.toNatClampNeg i)).toInt ≤ 40 := J.2.2.2.1 1168 _ _ _ rfl _ (by show i.toInt.toNat < _; omega)
theorem mwa_1168 {x : Nat → Nat → Nat} {t : Int32} {s : ps_S} {i : Nat} {v : Int32} (J : mJ x t s) (h1 : 0 ≤ v.toInt) (h2 : v.toInt ≤ 40) : mJ x t (ps_ua s 1168 i v) := mw_a J (by decide) (fun n a b e => by cases e; exact ⟨h1, h2⟩)
theorem ma_1171 {x : Nat → Nat → Nat} {t : Int32} {s : ps_S} {i : Int32} (J : mJ x t s) (h0 : 0 ≤ i.toInt) (h1 : i.toInt < 6) : 0 ≤ (ps_a s 1171 (Int32.toNatClampNeg i)).toInt ∧ (ps_a s 1171 (Int32.toNatClampNeg i)).toInt ≤ 54 := J.2.2.2.1 1171 _ _ _ rfl _ (by show i.toInt.toNat < _; omega)
theorem mwa_1171 {x : Nat → Nat → Nat} {t : Int32} {s : ps_S} {i : Nat} {v : Int32} (J : mJ x t s) (h1 : 0 ≤ v.toInt) (h2 : v.toInt ≤ 54) : mJ x t (ps_ua s 1171 i v) := mw_a J (by decide) (fun n a b e => by cases e; exact ⟨h1, h2⟩)
theorem ma_1172 {x : Nat → Nat → Nat} {t : Int32} {s : ps_S} {i : Int32} (J : mJ x t s) (h0 : 0 ≤ i.toInt) (h1 : i.toInt < 4) : 0 ≤ (ps_a s 1172 (Int32.toNatClampNeg i)).toInt ∧ (ps_a s 1172 (Int32.toNatClampNeg i)).toInt ≤ 90 := J.2.2.2.1 1172 _ _ _ rfl _ (by show i.toInt.toNat < _; omega)
theorem mwa_1172 {x : Nat → Nat → Nat} {t : Int32} {s : ps_S} {i : Nat} {v : Int32} (J : mJ x t s) (h1 : 0 ≤ v.toInt) (h2 : v.toInt ≤ 90) : mJ x t (ps_ua s 1172 i v) := mw_a J (by decide) (fun n a b e => by cases e; exact ⟨h1, h2⟩)
theorem ma_1176 {x : Nat → Nat → Nat} {t : Int32} {s : ps_S} {i : Int32} (J : mJ x t s) (h0 : 0 ≤ i.toInt) (h1 : i.toInt < 3) : -1 ≤ (ps_a s 1176 (Int32.toNatClampNeg i)).toInt ∧ (ps_a s 1176 (Int32.toNatClampNeg i)).toInt ≤ 12 := J.2.2.2.1 1176 _ _ _ rfl _ (by show i.toInt.toNat < _; omega)
theorem mwa_1176 {x : Nat → Nat → Nat} {t : Int32} {s : ps_S} {i : Nat} {v : Int32} (J : mJ x t s) (h1 : -1 ≤ v.toInt) (h2 : v.toInt ≤ 12) : mJ x t (ps_ua s 1176 i v) := mw_a J (by decide) (fun n a b e => by cases e; exact ⟨h1, h2⟩)
theorem xlt {a b : Int32} (h : a < b) : a.toInt < b.toInt := Int32.lt_iff_toInt_lt.mp h
theorem xle {a b : Int32} (h : a ≤ b) : a.toInt ≤ b.toInt := Int32.le_iff_toInt_le.mp h
theorem xeq {a b : Int32} (h : a = b) : a.toInt = b.toInt := congrArg Int32.toInt h
theorem xne {a b : Int32} (h : a ≠ b) : a.toInt ≠ b.toInt := fun z => h (Int32.toInt_inj.mp z)
theorem xR (a : Int32) : -2147483648 ≤ a.toInt ∧ a.toInt < 2147483648 := ⟨Int32.le_toInt a, Int32.toInt_lt a⟩
theorem xbm (n : Int) : ∃ k : Int, n.bmod 4294967296 = n + 4294967296 * k := by
  rw [Int.bmod_def]
  split
  · exact ⟨-(n / 4294967296), by omega⟩
  · exact ⟨-(n / 4294967296) - 1, by omega⟩
theorem xA (a b : Int32) : ∃ k : Int, (a + b).toInt = a.toInt + b.toInt + 4294967296 * k ∧ -2147483648 ≤ (a + b).toInt ∧ (a + b).toInt < 2147483648 := by
  obtain ⟨k, hk⟩ := xbm (a.toInt + b.toInt)
  exact ⟨k, by rw [Int32.toInt_add]; exact hk, xR _⟩
theorem xS (a b : Int32) : ∃ k : Int, (a - b).toInt = a.toInt - b.toInt + 4294967296 * k ∧ -2147483648 ≤ (a - b).toInt ∧ (a - b).toInt < 2147483648 := by
  obtain ⟨k, hk⟩ := xbm (a.toInt - b.toInt)
  exact ⟨k, by rw [Int32.toInt_sub]; exact hk, xR _⟩
theorem xM (a b : Int32) : ∃ k : Int, (a * b).toInt = a.toInt * b.toInt + 4294967296 * k ∧ -2147483648 ≤ (a * b).toInt ∧ (a * b).toInt < 2147483648 := by
  obtain ⟨k, hk⟩ := xbm (a.toInt * b.toInt)
  exact ⟨k, by rw [Int32.toInt_mul]; exact hk, xR _⟩
theorem xgi {i : Int32} {n : Nat} (h1 : 0 ≤ i.toInt) (h2 : i.toInt < n) : pm_in i n = true := by
  unfold pm_in
  rw [Bool.and_eq_true]
  refine ⟨decide_eq_true (Int32.le_iff_toInt_le.mpr (by rw [Int32.toInt_zero]; exact h1)), Nat.ble_eq_true_of_le ?_⟩
  show i.toInt.toNat < n
  omega
theorem xN (a : Int32) {c : Int32} {n : Nat} (hc : c.toBitVec.toNat = n) (hn : n < 2147483648) : 0 ≤ (a &&& c).toInt ∧ (a &&& c).toInt ≤ n := by
  have h1 : (a &&& c).toBitVec.toNat ≤ n := by
    rw [← hc, Int32.toBitVec_and, BitVec.toNat_and]
    exact Nat.and_le_right
  have h2 : (a &&& c).toInt = (a &&& c).toBitVec.toNat := by
    show (a &&& c).toBitVec.toInt = _
    rw [BitVec.toInt_eq_toNat_of_lt (by omega)]
  omega
theorem xstr {P : Nat → Prop} (h : ∀ n, (∀ k, k < n → P k) → P n) (n : Nat) : P n := Nat.strongRecOn n h
theorem xb1 {v : Int32} (h : v.toInt = 0 ∨ v.toInt = 1) : v &&& 1 = v := by
  rcases h with h | h
  · rw [show v = 0 from Int32.toInt_inj.mp h]; decide
  · rw [show v = 1 from Int32.toInt_inj.mp h]; decide
theorem xb2 {v : Int32} (h : v &&& 1 = v) : 0 ≤ v.toInt ∧ v.toInt ≤ 1 := by
  have := xN v (c := 1) (n := 1) rfl (by decide)
  rw [h] at this
  exact this
