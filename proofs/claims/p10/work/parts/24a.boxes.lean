theorem MI_box {σ : mSig} {g g' g5 g6 g7 g8 g9 ga gx gx' : Nat → Int32} {b st th i : Int} (h : MI σ g g5 g6 g7 g8 g9 ga gx b st th) (h40 : st ≤ 40) (h0 : 0 ≤ i) (ho : ∀ k : Nat, (k : Int) < 25830 + 492 * i ∨ 25830 + 492 * i + 492 ≤ (k : Int) → g' k = g k) (hx : ∀ j : Nat, (j : Int) ≠ i → gx' j = gx j) (hb : (gx' i.toNat).toInt = th) (hf : ∀ k : Nat, (k : Int) < th → k < 12 → Fm σ g' (25830 + 41 * (12 * i + k))) : MI σ g' g5 g6 g7 g8 g9 ga gx' b st th := by
  obtain ⟨h1, h2, h3, h4, h5, h6⟩ := h
  obtain ⟨b0, b1, -⟩ := id h1
  refine ⟨h1, PSt_keep h2 h40 (fun k hk => ho k (by omega)), fun k hk q => Fm_keep (h3 k hk q) (fun j _ _ => ho j (by omega)), fun k hk q => FmC_keep (h4 k hk q) (fun j _ _ => ho j (by omega)), ?_, fun j k q hk q2 => ?_⟩
  · rcases h5 with z | z
    · left; rw [ho 25748 (by omega)]; exact z
    · exact Or.inr (Fm_keep z (fun j _ _ => ho j (by omega)))
  · by_cases e : (j : Int) = i
    · have e2 : j = i.toNat := by omega
      rw [e2, hb] at hk
      rw [e]
      exact hf k hk q2
    · rw [hx j e] at hk
      exact Fm_keep (h6 j k q hk q2) (fun m _ _ => ho m (by omega))
theorem MI_back {σ : mSig} {g g' g5 g6 g7 g8 g9 ga gx : Nat → Int32} {b st st' th th' : Int} (h : MI σ g g5 g6 g7 g8 g9 ga gx b st th) (hs : st' ≤ st) (ho : ∀ k : Nat, (k : Int) < 21320 ∨ 21812 ≤ (k : Int) → g' k = g k) (h40 : st' ≤ 40) (hf : ∀ k : Nat, (k : Int) < th' → k < 12 → Fm σ g' (21320 + 41 * k)) : MI σ g' g5 g6 g7 g8 g9 ga gx b st' th' := by
  obtain ⟨h1, h2, h3, h4, h5, h6⟩ := h
  obtain ⟨b0, b1, -⟩ := id h1
  refine ⟨h1, PSt_keep (PSt_le h2 hs) h40 (fun k hk => ho k (by omega)), hf, fun k hk q => FmC_keep (h4 k hk q) (fun j _ _ => ho j (by omega)), ?_, fun i k q hk q2 => Fm_keep (h6 i k q hk q2) (fun j _ _ => ho j (by omega))⟩
  rcases h5 with z | z
  · left; rw [ho 25748 (by omega)]; exact z
  · exact Or.inr (Fm_keep z (fun j _ _ => ho j (by omega)))
theorem MI_keep1 {σ : mSig} {g g' g5 g6 g7 g8 g9 ga gx : Nat → Int32} {b st th th' a : Int} (h : MI σ g g5 g6 g7 g8 g9 ga gx b st th) (h40 : st ≤ 40) (h0 : 0 ≤ th) (h12 : th < 12) (ha : a = 21320 + 41 * th) (e : th' = th + 1) (ho : ∀ k : Nat, (k : Int) < a ∨ a + 41 ≤ (k : Int) → g' k = g k) (hf : Fm σ g' a) : MI σ g' g5 g6 g7 g8 g9 ga gx b st th' := by
  refine MI_back h (Int.le_refl _) (fun k hk => ho k (by omega)) h40 (fun k hk q => ?_)
  by_cases e2 : (k : Int) = th
  · rw [e2, ← ha]; exact hf
  · exact Fm_keep (h.2.2.1 k (by omega) q) (fun j _ _ => ho j (by omega))
theorem MI_th {σ : mSig} {g g5 g6 g7 g8 g9 ga gx : Nat → Int32} {b st th : Int} {k : Int32} {a : Int} (h : MI σ g g5 g6 g7 g8 g9 ga gx b st th) (h0 : 0 ≤ k.toInt) (hk : k.toInt < th) (h12 : th ≤ 12) (ha : a = 21320 + 41 * k.toInt) : Fm σ g a := by
  have := h.2.2.1 k.toInt.toNat (by omega) (by omega)
  rw [show ((k.toInt.toNat : Nat) : Int) = k.toInt from by omega] at this
  rw [ha]; exact this
theorem MI_bx {σ : mSig} {g g5 g6 g7 g8 g9 ga gx : Nat → Int32} {b st th : Int} {i k : Int32} {a : Int} (h : MI σ g g5 g6 g7 g8 g9 ga gx b st th) (hi : 0 ≤ i.toInt) (h3 : i.toInt < 3) (h0 : 0 ≤ k.toInt) (hk : k.toInt < (gx (i.toInt.toNat)).toInt) (h12 : k.toInt < 12) (ha : a = 25830 + 41 * (12 * i.toInt + k.toInt)) : Fm σ g a := by
  have := h.2.2.2.2.2 i.toInt.toNat k.toInt.toNat (by omega) (by omega) (by omega)
  rw [show ((k.toInt.toNat : Nat) : Int) = k.toInt from by omega, show ((i.toInt.toNat : Nat) : Int) = i.toInt from by omega] at this
  rw [ha]; exact this
theorem MI_step {σ : mSig} {g g5 g6 g7 g8 g9 ga gx : Nat → Int32} {b st th : Int} {i a : Int} (h : MI σ g g5 g6 g7 g8 g9 ga gx b st th) (h0 : 0 ≤ i) (hi : i < st) (ha : a = 41 * i) : Fm σ g a := by
  have := (h.2.1 i.toNat (by omega)).1
  rw [show ((i.toNat : Nat) : Int) = i from by omega] at this
  rw [ha]; exact this
theorem Fm_put {σ : mSig} {g g' : Nat → Int32} {n : Int} {f : Nat → Int} (h : ∀ k : Nat, (k : Int) < n → k < 12 → Fm σ g (f k)) (h0 : 0 ≤ n) (hf : Fm σ g' (f n.toNat)) (ho : ∀ k : Nat, (k : Int) < n → k < 12 → ∀ j : Nat, f k ≤ (j : Int) → (j : Int) < f k + 41 → g' j = g j) : ∀ k : Nat, (k : Int) < n + 1 → k < 12 → Fm σ g' (f k) := by
  intro k hk q
  by_cases e : (k : Int) = n
  · have e2 : k = n.toNat := by omega
    rw [e2]; exact hf
  · exact Fm_keep (h k (by omega) q) (ho k (by omega) q)
theorem MI_kp {σ : mSig} {A F : List Nat} {s s' : ps_S} (h : MI σ (ps_a s 1134) (ps_a s 1135) (ps_a s 1136) (ps_a s 1137) (ps_a s 1138) (ps_a s 1139) (ps_a s 1157) (ps_a s 1176) (ps_i s 1131 21).toInt (ps_i s 1131 47).toInt (ps_i s 1131 54).toInt) (K : kp A F s s') (a1134 : A.contains 1134 = false) (a1135 : A.contains 1135 = false) (a1136 : A.contains 1136 = false) (a1137 : A.contains 1137 = false) (a1138 : A.contains 1138 = false) (a1139 : A.contains 1139 = false) (a1157 : A.contains 1157 = false) (a1176 : A.contains 1176 = false) (f21 : F.contains 21 = false) (f47 : F.contains 47 = false) (f54 : F.contains 54 = false) : MI σ (ps_a s' 1134) (ps_a s' 1135) (ps_a s' 1136) (ps_a s' 1137) (ps_a s' 1138) (ps_a s' 1139) (ps_a s' 1157) (ps_a s' 1176) (ps_i s' 1131 21).toInt (ps_i s' 1131 47).toInt (ps_i s' 1131 54).toInt := by
  rw [(K.2 1134 a1134).1, (K.2 1135 a1135).1, (K.2 1136 a1136).1, (K.2 1137 a1137).1, (K.2 1138 a1138).1, (K.2 1139 a1139).1, (K.2 1157 a1157).1, (K.2 1176 a1176).1, kp_i K 21 f21, kp_i K 47 f47, kp_i K 54 f54]
  exact h
