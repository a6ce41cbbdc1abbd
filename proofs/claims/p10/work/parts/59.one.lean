set_option maxRecDepth 100000
/-! between two calls: both sides hold one theory and one formula -/
def LG (s : ps_S) : Prop := ∃ (h : tx_H) (l : List Nat) (b : Nat), b < 2 ∧ (ps_i s 1131 21).toInt = b ∧ cv_H s (ps_r s 0 2) h ∧ mv_H s b h ∧ ((ps_r s 0 2 = 2 ∧ ps_r s 0 3 = 26) ∨ (ps_r s 0 2 = 26 ∧ ps_r s 0 3 = 2)) ∧ cv_W s 934 l ∧ mv_W s 25748 l
theorem mv_W_V {s s' : ps_S} {to : Nat} {l : List Nat} (h : mv_W s to l) (hV : ∀ k, to ≤ k → k < to + 41 → ps_a s' 1134 k = ps_a s 1134 k) : mv_W s' to l := by
  obtain ⟨h1, h2, h3⟩ := h
  refine ⟨by rw [hV to (by omega) (by omega)]; exact h1, h2, fun k c hk => ?_⟩
  have hl := (List.getElem?_eq_some_iff.mp hk).1
  rw [hV (to + 1 + k) (by omega) (by omega)]
  exact h3 k c hk
theorem mv_H_V {s s' : ps_S} {b : Nat} {h : tx_H} (hb : b < 2) (H : mv_H s b h) (ha : ∀ r, r ∈ [1135, 1136, 1137, 1138, 1139] → ps_a s' r = ps_a s r) (hbb : ∀ r, r ∈ [1140, 1141, 1142] → ps_b s' r = ps_b s r) (hV : ∀ k, 21812 ≤ k → k < 22468 → ps_a s' 1134 k = ps_a s 1134 k) : mv_H s' b h := by
  obtain ⟨⟨e1, e2, e3, e4, e5, e6⟩, f2, f3, f4⟩ := H
  refine ⟨⟨by rw [ha 1135 (by decide)]; exact e1, by rw [ha 1136 (by decide)]; exact e2, e3, e4, fun k w a hk => ?_, fun k w a hk => ?_⟩, by rw [ha 1137 (by decide)]; exact f2, f3, fun k w l hk => ?_⟩
  · obtain ⟨y1, y2, y3, y4⟩ := e5 k w a hk
    exact ⟨y1, y2, by rw [hbb 1140 (by decide)]; exact y3, by rw [ha 1138 (by decide)]; exact y4⟩
  · obtain ⟨y1, y2, y3, y4⟩ := e6 k w a hk
    exact ⟨y1, y2, by rw [hbb 1141 (by decide)]; exact y3, by rw [ha 1139 (by decide)]; exact y4⟩
  · obtain ⟨y1, y2, y3⟩ := f4 k w l hk
    have hl := (List.getElem?_eq_some_iff.mp hk).1
    exact ⟨y1, by rw [hbb 1142 (by decide)]; exact y2, mv_W_V y3 (fun j h1 h2 => hV j (by omega) (by omega))⟩
theorem LG_mk {s s' : ps_S} {C : Nat → Prop} (H : LG s) (F : cfr C s s') (hC : ∀ q, (1 ≤ q ∧ q < 50) ∨ q = 934 ∨ q = 935 → ¬ C q) (r2 : ps_r s' 0 2 = ps_r s 0 2) (r3 : ps_r s' 0 3 = ps_r s 0 3) (h21 : ps_i s' 1131 21 = ps_i s 1131 21) (ha : ∀ r, r ∈ [1135, 1136, 1137, 1138, 1139] → ps_a s' r = ps_a s r) (hbb : ∀ r, r ∈ [1140, 1141, 1142] → ps_b s' r = ps_b s r) (hV : ∀ k, (21812 ≤ k ∧ k < 22468) ∨ (25748 ≤ k ∧ k < 25789) → ps_a s' 1134 k = ps_a s 1134 k) : LG s' := by
  obtain ⟨h, l, b, hb, h1, h2, h3, h4, h5, h6⟩ := H
  refine ⟨h, l, b, hb, by rw [h21]; exact h1, ?_, mv_H_V hb h3 ha hbb (fun k a b => hV k (Or.inl ⟨a, b⟩)), by rw [r2, r3]; exact h4, cv_W_cfr h5 F (hC _ (by omega)) (hC _ (by omega)), mv_W_V h6 (fun k a b => hV k (Or.inr ⟨by omega, by omega⟩))⟩
  rw [r2]
  have hl := h2.2.2.1
  exact cv_H_cfr h2 F (fun q a b => hC q (Or.inl (by omega)))
/-- a call of the class -/
theorem LG_x {s s' : ps_S} {t : Int32} {C : Nat → Prop} (H : LG s) (J : xJ s t s') (F : cfr C s s') (hC : ∀ q, (1 ≤ q ∧ q < 50) ∨ q = 934 ∨ q = 935 → ¬ C q) (r2 : ps_r s' 0 2 = ps_r s 0 2) (r3 : ps_r s' 0 3 = ps_r s 0 3) : LG s' := by
  have E : ∀ r, 1131 ≤ r → ps_i s' r = ps_i s r ∧ ps_j s' r = ps_j s r ∧ ps_a s' r = ps_a s r ∧ ps_b s' r = ps_b s r := J.2.2
  refine LG_mk H F hC r2 r3 (by rw [(E 1131 (by decide)).1]) (fun r hr => (E r ?_).2.2.1) (fun r hr => (E r ?_).2.2.2) (fun k _ => by rw [(E 1134 (by decide)).2.2.1])
  · exact (show ∀ r, r ∈ [1135, 1136, 1137, 1138, 1139] → 1131 ≤ r by decide) r hr
  · exact (show ∀ r, r ∈ [1140, 1141, 1142] → 1131 ≤ r by decide) r hr
/-- a call of the reference -/
theorem LG_m {s s' : ps_S} {t : Int32} {A F : List Nat} (H : LG s) (J : mJ s.1.2.2 t s') (K : kp A F s s') (hA : A.all (fun a => Nat.ble 1131 a && ![1135, 1136, 1137, 1138, 1139, 1140, 1141, 1142].contains a) = true) (hF : F.contains 21 = false) (hV : ∀ k, (21812 ≤ k ∧ k < 22468) ∨ (25748 ≤ k ∧ k < 25789) → ps_a s' 1134 k = ps_a s 1134 k) : LG s' := by
  have hr : ps_r s' = ps_r s := J.1
  rw [List.all_eq_true] at hA
  have hn : ∀ r, r < 1131 ∨ r ∈ [1135, 1136, 1137, 1138, 1139, 1140, 1141, 1142] → A.contains r = false := fun r hr => by
    cases e : A.contains r with
    | false => rfl
    | true =>
      have z := hA r (List.contains_iff_mem.mp e)
      rw [Bool.and_eq_true] at z
      rcases hr with hr | hr
      · have := Nat.le_of_ble_eq_true z.1
        omega
      · rw [List.contains_iff_mem.mpr hr] at z
        exact absurd z.2 (by decide)
  have Fr : cfr (fun q => 1131 ≤ q) s s' := fun q hq => by
    have hq : q < 1131 := by omega
    exact ⟨fun f => (K.1 q f (fun z => by omega)).1, fun f => (K.1 q f (fun z => by omega)).2, fun f => by rw [hr], (K.2 q (hn q (Or.inl hq))).1, (K.2 q (hn q (Or.inl hq))).2⟩
  refine LG_mk H Fr (fun q hq z => by omega) (by rw [hr]) (by rw [hr]) (kp_i K 21 hF) (fun r h => (K.2 r (hn r (Or.inr ?_))).1) (fun r h => (K.2 r (hn r (Or.inr ?_))).2) hV
  · exact (show ∀ r, r ∈ [1135, 1136, 1137, 1138, 1139] → r ∈ [1135, 1136, 1137, 1138, 1139, 1140, 1141, 1142] by decide) r h
  · exact (show ∀ r, r ∈ [1140, 1141, 1142] → r ∈ [1135, 1136, 1137, 1138, 1139, 1140, 1141, 1142] by decide) r h
/-- the pool untouched -/
theorem LG_p {s s' : ps_S} {A F : List Nat} (K : kp A F s s') (a : A.contains 1134 = false) : ∀ k, (21812 ≤ k ∧ k < 22468) ∨ (25748 ≤ k ∧ k < 25789) → ps_a s' 1134 k = ps_a s 1134 k := fun k _ => by rw [(K.2 1134 a).1]
theorem s1_LG : LG ps_s1 := by
  have e2 : ps_r ps_s1 0 2 = 2 := by decide +kernel
  have e3 : ps_r ps_s1 0 3 = 26 := by decide +kernel
  have hb : cv_base ps_s1 2 := s1_LF.2.2.1
  refine ⟨(([], []), []), [], (ps_i ps_s1 1131 21).toInt.toNat, by decide +kernel, by decide +kernel, ?_, ?_, Or.inl ⟨e2, e3⟩, ?_, ?_⟩
  · rw [e2]
    exact ⟨⟨by decide +kernel, by decide +kernel, Nat.zero_le _, Nat.zero_le _, (fun k w a hk => by cases hk), (fun k w a hk => by cases hk), hb, (fun w m1 _ => by cases m1)⟩, by decide +kernel, Nat.zero_le _, (fun k w l hk => by cases hk)⟩
  · exact ⟨⟨by decide +kernel, by decide +kernel, Nat.zero_le _, Nat.zero_le _, (fun k w a hk => by cases hk), (fun k w a hk => by cases hk)⟩, by decide +kernel, Nat.zero_le _, (fun k w l hk => by cases hk)⟩
  · exact ⟨by decide +kernel, by decide +kernel, Nat.zero_le _, (fun k c hk => by cases hk)⟩
  · exact ⟨by decide +kernel, Nat.zero_le _, (fun k c hk => by cases hk)⟩
