/-! a step as it was read -/
def SR (σ : mSig) (g : Nat → Int32) (kd one ax j : Int) : Prop := (kd ≠ 0 → kd ≠ 15 → 0 ≤ one) ∧ (kd = 0 ∨ kd = 6 ∨ kd = 7 ∨ kd = 10 ∨ kd = 13 ∨ 16 ≤ kd → Fm σ g (22468 + 41 * j)) ∧ (kd = 12 ∨ kd = 13 ∨ kd = 15 → Tm σ g (24108 + 41 * j)) ∧ (kd = 1 → 0 ≤ one ∧ one < ax)
def SRs (σ : mSig) (g gk g1 : Nat → Int32) (ax n : Int) : Prop := ∀ j : Nat, (j : Int) < n → SR σ g (gk j).toInt (g1 j).toInt ax j
theorem SR_keep {σ : mSig} {g g' : Nat → Int32} {kd one ax j : Int} (h : SR σ g kd one ax j) (h1 : ∀ k : Nat, 22468 + 41 * j ≤ (k : Int) → (k : Int) < 22468 + 41 * j + 41 → g' k = g k) (h2 : ∀ k : Nat, 24108 + 41 * j ≤ (k : Int) → (k : Int) < 24108 + 41 * j + 41 → g' k = g k) : SR σ g' kd one ax j := ⟨h.1, fun z => Fm_keep (h.2.1 z) h1, fun z => Tm_keep (h.2.2.1 z) h2, h.2.2.2⟩
theorem SRs_0 {σ : mSig} {g gk g1 : Nat → Int32} {ax n : Int} (h : n = 0) : SRs σ g gk g1 ax n := fun j hj => by omega
theorem SRs_n {σ : mSig} {g gk g1 : Nat → Int32} {ax ax' n n' : Int} (h : SRs σ g gk g1 ax n) (e : n' = n) (e2 : ax' = ax) : SRs σ g gk g1 ax' n' := by rw [e, e2]; exact h
theorem SRs_row {σ : mSig} {g g' gk g1 : Nat → Int32} {ax n a i : Int} (h : SRs σ g gk g1 ax n) (ho : ∀ k : Nat, (k : Int) < a ∨ a + 41 ≤ (k : Int) → g' k = g k) (ha : a = 22468 + 41 * i ∨ a = 24108 + 41 * i) (hn : n ≤ i) (h40 : i < 40) : SRs σ g' gk g1 ax n := fun j hj => SR_keep (h j hj) (fun k h1 h2 => ho k (by omega)) (fun k h1 h2 => ho k (by omega))
theorem SRs_ho {σ : mSig} {g g' gk g1 : Nat → Int32} {ax n : Int} (h : SRs σ g gk g1 ax n) (ho : ∀ k : Nat, 21320 ≤ k → g' k = g k) : SRs σ g' gk g1 ax n := fun j hj => SR_keep (h j hj) (fun k h1 h2 => ho k (by omega)) (fun k h1 h2 => ho k (by omega))
theorem SRs_set {σ : mSig} {g gk g1 gk' g1' : Nat → Int32} {ax n : Int} {i : Nat} (h : SRs σ g gk g1 ax n) (hk : ∀ j, j ≠ i → gk' j = gk j) (h1 : ∀ j, j ≠ i → g1' j = g1 j) (hi : n ≤ (i : Int)) : SRs σ g gk' g1' ax n := fun j hj => by
  have e : j ≠ i := by omega
  rw [hk j e, h1 j e]
  exact h j hj
theorem SRs_up {σ : mSig} {g gk g1 : Nat → Int32} {ax n kd one : Int} (h : SRs σ g gk g1 ax n) (h0 : 0 ≤ n) (hk : (gk n.toNat).toInt = kd) (h1 : (g1 n.toNat).toInt = one) (hs : SR σ g kd one ax n) : SRs σ g gk g1 ax (n + 1) := fun j hj => by
  by_cases e : (j : Int) = n
  · have e2 : j = n.toNat := by omega
    rw [e2, hk, h1, show ((n.toNat : Nat) : Int) = n from by omega]
    exact hs
  · exact h j (by omega)
/-- a formula without free names -/
def FmC (σ : mSig) (g : Nat → Int32) (a : Int) : Prop := ∃ l, Rw g a l ∧ wf σ 5 l [(true, 0)] ∧ ∀ p, p ∈ l → p < 60
theorem FmC_Fm {σ : mSig} {g : Nat → Int32} {a : Int} (h : FmC σ g a) : Fm σ g a := by
  obtain ⟨l, h1, h2, h3⟩ := h
  exact ⟨l, h1, h2⟩
theorem FmC_keep {σ : mSig} {g g' : Nat → Int32} {a : Int} (h : FmC σ g a) (hj : ∀ i : Nat, a ≤ i → (i : Int) < a + 41 → g' i = g i) : FmC σ g' a := by
  obtain ⟨l, h1, h2, h3⟩ := h
  exact ⟨l, Rw_keep h1 hj, h2, h3⟩
/-- what stands between two calls -/
def MI (σ : mSig) (g g5 g6 g7 g8 g9 ga gx : Nat → Int32) (b st th : Int) : Prop := Sg g5 g6 g8 g9 b σ ∧ PSt σ g ga st ∧ (∀ k : Nat, (k : Int) < th → k < 12 → Fm σ g (21320 + 41 * k)) ∧ (∀ k : Nat, (k : Int) < (g7 b.toNat).toInt → k < 8 → FmC σ g (21812 + 41 * (8 * b + k))) ∧ ((g 25748).toInt = 0 ∨ Fm σ g 25748) ∧ (∀ i k : Nat, i < 3 → (k : Int) < (gx i).toInt → k < 12 → Fm σ g (25830 + 41 * (12 * i + k)))
theorem SR_SB {σ : mSig} {g g5 g6 g7 g8 g9 ga gx gk g1 : Nat → Int32} {b st th ax n i : Int} (h : MI σ g g5 g6 g7 g8 g9 ga gx b st th) (hs : SRs σ g gk g1 ax n) (hi : 0 ≤ i) (hn : i < n) (ha : ax = (g7 b.toNat).toInt) (h8 : ax ≤ 8) (h12 : th ≤ 12) : SB σ g gk g1 b th i := by
  have q := hs i.toNat (by omega)
  rw [show ((i.toNat : Nat) : Int) = i from by omega] at q
  refine ⟨q.1, q.2.1, q.2.2.1, fun z => ?_, fun k hk => h.2.2.1 k hk (by omega)⟩
  have q2 := q.2.2.2 z
  have q3 := h.2.2.2.1 (g1 i.toNat).toInt.toNat (by omega) (by omega)
  rw [show ((((g1 i.toNat).toInt.toNat : Nat)) : Int) = (g1 i.toNat).toInt from by omega] at q3
  exact FmC_Fm q3
theorem PSt_keep {σ : mSig} {g g' ga : Nat → Int32} {i : Int} (h : PSt σ g ga i) (h40 : i ≤ 40) (ho : ∀ k : Nat, (k : Int) < 21320 → g' k = g k) : PSt σ g' ga i := by
  intro j hj
  obtain ⟨h1, h2⟩ := h j hj
  exact ⟨Fm_keep h1 (fun k _ _ => ho k (by omega)), fun k hk h12 => Fm_keep (h2 k hk h12) (fun q _ _ => ho q (by omega))⟩
theorem MI_pool {σ : mSig} {g g' g5 g6 g7 g8 g9 ga gx : Nat → Int32} {b st th : Int} (h : MI σ g g5 g6 g7 g8 g9 ga gx b st th) (h40 : st ≤ 40) (ho : ∀ k : Nat, (k : Int) < 22468 ∨ 25748 ≤ (k : Int) → g' k = g k) : MI σ g' g5 g6 g7 g8 g9 ga gx b st th := by
  obtain ⟨h1, h2, h3, h4, h5, h6⟩ := h
  obtain ⟨b0, b1, -⟩ := id h1
  refine ⟨h1, PSt_keep h2 h40 (fun k hk => ho k (by omega)), fun k hk q => Fm_keep (h3 k hk q) (fun j _ _ => ho j (by omega)), fun k hk q => FmC_keep (h4 k hk q) (fun j _ _ => ho j (by omega)), ?_, fun i k q hk q2 => Fm_keep (h6 i k q hk q2) (fun j _ _ => ho j (by omega))⟩
  rcases h5 with z | z
  · left; rw [ho 25748 (by omega)]; exact z
  · exact Or.inr (Fm_keep z (fun j _ _ => ho j (by omega)))
theorem MI_read {σ : mSig} {g g' g5 g6 g7 g8 g9 ga gx : Nat → Int32} {b st th : Int} (h : MI σ g g5 g6 g7 g8 g9 ga gx b st th) (h40 : st ≤ 40) (ho : ∀ k : Nat, (k : Int) < 25748 ∨ 25830 ≤ (k : Int) → g' k = g k) (hr : (g' 25748).toInt = 0 ∨ Fm σ g' 25748) : MI σ g' g5 g6 g7 g8 g9 ga gx b st th := by
  obtain ⟨h1, h2, h3, h4, h5, h6⟩ := h
  obtain ⟨b0, b1, -⟩ := id h1
  exact ⟨h1, PSt_keep h2 h40 (fun k hk => ho k (by omega)), fun k hk q => Fm_keep (h3 k hk q) (fun j _ _ => ho j (by omega)), fun k hk q => FmC_keep (h4 k hk q) (fun j _ _ => ho j (by omega)), hr, fun i k q hk q2 => Fm_keep (h6 i k q hk q2) (fun j _ _ => ho j (by omega))⟩
theorem MI_norm {σ : mSig} {g g' g5 g6 g7 g8 g9 ga gx : Nat → Int32} {b st th : Int} (h : MI σ g g5 g6 g7 g8 g9 ga gx b st th) (h40 : st ≤ 40) (ho : ∀ k : Nat, (k : Int) < 25789 ∨ 25830 ≤ (k : Int) → g' k = g k) : MI σ g' g5 g6 g7 g8 g9 ga gx b st th := by
  refine MI_read h h40 (fun k hk => ho k (by omega)) ?_
  rcases h.2.2.2.2.1 with z | z
  · left; rw [ho 25748 (by omega)]; exact z
  · exact Or.inr (Fm_keep z (fun j _ _ => ho j (by omega)))
theorem MI_take {σ : mSig} {g g' g5 g6 g7 g8 g9 ga ga' gx : Nat → Int32} {b st st' th : Int} (h : MI σ g g5 g6 g7 g8 g9 ga gx b st th) (ho : ∀ k : Nat, 21320 ≤ k → g' k = g k) (hP : PSt σ g' ga' st') : MI σ g' g5 g6 g7 g8 g9 ga' gx b st' th := by
  obtain ⟨h1, h2, h3, h4, h5, h6⟩ := h
  obtain ⟨b0, b1, -⟩ := id h1
  refine ⟨h1, hP, fun k hk q => Fm_keep (h3 k hk q) (fun j _ _ => ho j (by omega)), fun k hk q => FmC_keep (h4 k hk q) (fun j _ _ => ho j (by omega)), ?_, fun i k q hk q2 => Fm_keep (h6 i k q hk q2) (fun j _ _ => ho j (by omega))⟩
  rcases h5 with z | z
  · left; rw [ho 25748 (by omega)]; exact z
  · exact Or.inr (Fm_keep z (fun j _ _ => ho j (by omega)))
theorem MI_st {σ : mSig} {g g5 g6 g7 g8 g9 ga gx : Nat → Int32} {b st st' th th' : Int} (h : MI σ g g5 g6 g7 g8 g9 ga gx b st th) (hs : st' ≤ st) (ht : th' ≤ th) : MI σ g g5 g6 g7 g8 g9 ga gx b st' th' := by
  obtain ⟨h1, h2, h3, h4, h5, h6⟩ := h
  exact ⟨h1, fun j hj => h2 j (by omega), fun k hk q => h3 k (by omega) q, h4, h5, h6⟩
theorem MI_S {σ : mSig} {g g5 g6 g7 g8 g9 ga gx : Nat → Int32} {b st th : Int} (h : MI σ g g5 g6 g7 g8 g9 ga gx b st th) : Sg g5 g6 g8 g9 b σ := h.1
theorem MI_P {σ : mSig} {g g5 g6 g7 g8 g9 ga gx : Nat → Int32} {b st th : Int} (h : MI σ g g5 g6 g7 g8 g9 ga gx b st th) : PSt σ g ga st := h.2.1
