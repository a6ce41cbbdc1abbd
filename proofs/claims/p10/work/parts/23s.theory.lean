/-! a theory as it is told: more relations and functions, more axioms -/
def sLe (σ τ : mSig) : Prop := σ.1.1 ≤ τ.1.1 ∧ σ.1.2 ≤ τ.1.2 ∧ τ.1.2 ≤ 20 ∧ (∀ r, r < σ.1.1 → τ.2.1 r = σ.2.1 r) ∧ (∀ r, r < σ.1.2 → τ.2.2 r = σ.2.2 r)
theorem kS_ext {σ τ : mSig} (h : sLe σ τ) {b : Bool} {p : Nat} {ks : List Bool} (hk : kS σ b p = some ks) : kS τ b p = some ks := by
  obtain ⟨h1, h2, h3, h4, h5⟩ := h
  rcases kS_cases hk with ⟨rfl, hp, rfl⟩ | ⟨rfl, hp, hp', rfl⟩ | ⟨rfl, hp, rfl⟩ | ⟨rfl, hp, rfl⟩ | ⟨rfl, hp, hp', rfl⟩ | ⟨rfl, hp, hp', rfl⟩ | ⟨rfl, hp, hp', rfl⟩
  · rw [hp]; rfl
  · exact kS_f2 hp hp'
  · exact kS_f1 hp
  · rw [hp]; rfl
  · rw [kS_fr hp (by omega), h4 _ (by omega)]
  · rw [kS_tf hp (by omega), h5 _ (by omega)]
  · unfold kS; rw [cond_false, if_neg (by omega), if_pos ⟨hp, hp'⟩]
theorem wf_ext {σ τ : mSig} (h : sLe σ τ) {c : Nat} : ∀ {l : List Nat} {W : List (Bool × Nat)}, wf σ c l W → wf τ c l W
  | [], W, hw => hw
  | p :: l, W, hw => by
    obtain ⟨b, k, W', ks, rfl, hc, hk, hw⟩ := wf_cons.mp hw
    exact wf_c hc (kS_ext h hk) (wf_ext h hw)
theorem FmC_ext {σ τ : mSig} (h : sLe σ τ) {g : Nat → Int32} {a : Int} (hf : FmC σ g a) : FmC τ g a := by
  obtain ⟨l, h1, h2, h3⟩ := hf
  exact ⟨l, h1, wf_ext h h2, h3⟩
def TH (σ : mSig) (g g5 g6 g7 g8 g9 : Nat → Int32) (b : Int) : Prop := Sg g5 g6 g8 g9 b σ ∧ ∀ k : Nat, (k : Int) < (g7 b.toNat).toInt → k < 8 → FmC σ g (21812 + 41 * (8 * b + k))
theorem TH_0 {g g5 g6 g7 g8 g9 : Nat → Int32} {b : Int} (h0 : 0 ≤ b) (h1 : b ≤ 1) (h5 : (g5 b.toNat).toInt = 0) (h6 : (g6 b.toNat).toInt = 0) (h7 : (g7 b.toNat).toInt = 0) : TH ((0, 0), (fun _ => 0, fun _ => 0)) g g5 g6 g7 g8 g9 b := ⟨⟨h0, h1, h5, by decide, h6, by decide, fun r hr => absurd hr (Nat.not_lt_zero r), fun r hr => absurd hr (Nat.not_lt_zero r)⟩, fun k hk _ => by omega⟩
theorem TH_ax {σ : mSig} {g g' g5 g6 g7 g7' g8 g9 : Nat → Int32} {b c a : Int} (h : TH σ g g5 g6 g7 g8 g9 b) (hc : (g7 b.toNat).toInt = c) (ha : a = 21812 + 41 * (8 * b + c)) (h0 : 0 ≤ c) (ho : ∀ k : Nat, (k : Int) < a ∨ a + 41 ≤ (k : Int) → g' k = g k) (hf : FmC σ g' a) (h7 : (g7' b.toNat).toInt = c + 1) : TH σ g' g5 g6 g7' g8 g9 b := by
  obtain ⟨h1, h2⟩ := h
  refine ⟨h1, fun k hk h8 => ?_⟩
  by_cases e : (k : Int) = c
  · rw [e, ← ha]; exact hf
  · exact FmC_keep (h2 k (by omega) h8) (fun j _ _ => ho j (by omega))
theorem TH_8 {σ : mSig} {g g5 g6 g7 g8 g8' g9 : Nat → Int32} {b : Int} {i : Nat} (h : TH σ g g5 g6 g7 g8 g9 b) (hi : (i : Int) = 6 * b + (g5 b.toNat).toInt) (h8 : ∀ j, j ≠ i → g8' j = g8 j) : TH σ g g5 g6 g7 g8' g9 b := by
  obtain ⟨⟨a1, a2, a3, a4, a5, a6, a7, a8⟩, h2⟩ := h
  exact ⟨⟨a1, a2, a3, a4, a5, a6, fun r hr => by rw [h8 _ (by omega)]; exact a7 r hr, a8⟩, h2⟩
theorem TH_9 {σ : mSig} {g g5 g6 g7 g8 g9 g9' : Nat → Int32} {b : Int} {i : Nat} (h : TH σ g g5 g6 g7 g8 g9 b) (hi : (i : Int) = 4 * b + (g6 b.toNat).toInt) (h9 : ∀ j, j ≠ i → g9' j = g9 j) : TH σ g g5 g6 g7 g8 g9' b := by
  obtain ⟨⟨a1, a2, a3, a4, a5, a6, a7, a8⟩, h2⟩ := h
  exact ⟨⟨a1, a2, a3, a4, a5, a6, a7, fun r hr => by rw [h9 _ (by omega)]; exact a8 r hr⟩, h2⟩
theorem TH_rel {σ : mSig} {g g5 g5' g6 g7 g8 g9 : Nat → Int32} {b c : Int} {i : Nat} (h : TH σ g g5 g6 g7 g8 g9 b) (hc : (g5 b.toNat).toInt = c) (h6 : c < 6) (h5 : (g5' b.toNat).toInt = c + 1) (hi : (i : Int) = 6 * b + c) (h0 : 0 ≤ (g8 i).toInt) (h2' : (g8 i).toInt ≤ 2) : ∃ τ, TH τ g g5' g6 g7 g8 g9 b := by
  obtain ⟨⟨a1, a2, a3, a4, a5, a6, a7, a8⟩, h2⟩ := h
  have hl : sLe σ ((σ.1.1 + 1, σ.1.2), (fun r => if r = σ.1.1 then (g8 i).toInt.toNat else σ.2.1 r, σ.2.2)) := ⟨Nat.le_succ _, Nat.le_refl _, by show σ.1.2 ≤ 20; omega, fun r hr => if_neg (by omega), fun r hr => rfl⟩
  refine ⟨((σ.1.1 + 1, σ.1.2), (fun r => if r = σ.1.1 then (g8 i).toInt.toNat else σ.2.1 r, σ.2.2)), ⟨a1, a2, by show _ = ((σ.1.1 + 1 : Nat) : Int); omega, by show σ.1.1 + 1 ≤ 6; omega, a5, a6, fun r hr => ?_, a8⟩, fun k hk h8 => FmC_ext hl (h2 k hk h8)⟩
  have hr : r < σ.1.1 + 1 := hr
  show _ = (((if r = σ.1.1 then (g8 i).toInt.toNat else σ.2.1 r) : Nat) : Int) ∧ (if r = σ.1.1 then (g8 i).toInt.toNat else σ.2.1 r) ≤ 2
  by_cases e : r = σ.1.1
  · rw [if_pos e, show 6 * b.toNat + r = i from by omega]
    constructor <;> omega
  · rw [if_neg e]
    exact a7 r (by omega)
theorem TH_fun {σ : mSig} {g g5 g6 g6' g7 g8 g9 : Nat → Int32} {b c : Int} {i : Nat} (h : TH σ g g5 g6 g7 g8 g9 b) (hc : (g6 b.toNat).toInt = c) (h4 : c < 4) (h5 : (g6' b.toNat).toInt = c + 1) (hi : (i : Int) = 4 * b + c) (h0 : 0 ≤ (g9 i).toInt) (h2' : (g9 i).toInt ≤ 2) : ∃ τ, TH τ g g5 g6' g7 g8 g9 b := by
  obtain ⟨⟨a1, a2, a3, a4, a5, a6, a7, a8⟩, h2⟩ := h
  have hl : sLe σ ((σ.1.1, σ.1.2 + 1), (σ.2.1, fun r => if r = σ.1.2 then (g9 i).toInt.toNat else σ.2.2 r)) := ⟨Nat.le_refl _, Nat.le_succ _, by show σ.1.2 + 1 ≤ 20; omega, fun r hr => rfl, fun r hr => if_neg (by omega)⟩
  refine ⟨((σ.1.1, σ.1.2 + 1), (σ.2.1, fun r => if r = σ.1.2 then (g9 i).toInt.toNat else σ.2.2 r)), ⟨a1, a2, a3, a4, by show _ = ((σ.1.2 + 1 : Nat) : Int); omega, by show σ.1.2 + 1 ≤ 4; omega, a7, fun r hr => ?_⟩, fun k hk h8 => FmC_ext hl (h2 k hk h8)⟩
  have hr : r < σ.1.2 + 1 := hr
  show _ = (((if r = σ.1.2 then (g9 i).toInt.toNat else σ.2.2 r) : Nat) : Int) ∧ (if r = σ.1.2 then (g9 i).toInt.toNat else σ.2.2 r) ≤ 2
  by_cases e : r = σ.1.2
  · rw [if_pos e, show 4 * b.toNat + r = i from by omega]
    constructor <;> omega
  · rw [if_neg e]
    exact a8 r (by omega)
/-- all but the tables of bank b is as it was -/
def KB (b : Int) (g g5 g6 g7 g8 g9 g' g5' g6' g7' g8' g9' : Nat → Int32) : Prop := (∀ j : Nat, (j : Int) ≠ b → g5' j = g5 j ∧ g6' j = g6 j ∧ g7' j = g7 j) ∧ (∀ j : Nat, (j : Int) < 6 * b ∨ 6 * b + 6 ≤ (j : Int) → g8' j = g8 j) ∧ (∀ j : Nat, (j : Int) < 4 * b ∨ 4 * b + 4 ≤ (j : Int) → g9' j = g9 j) ∧ (∀ k : Nat, (k : Int) < 21812 + 328 * b ∨ 21812 + 328 * b + 328 ≤ (k : Int) → g' k = g k)
section PKB
variable {b : Int} {g g5 g6 g7 g8 g9 g' g5' g6' g7' g8' g9' q : Nat → Int32} {i : Nat}
theorem KB_0 : KB b g g5 g6 g7 g8 g9 g g5 g6 g7 g8 g9 := ⟨fun _ _ => ⟨rfl, rfl, rfl⟩, fun _ _ => rfl, fun _ _ => rfl, fun _ _ => rfl⟩
theorem KB_5 (h : KB b g g5 g6 g7 g8 g9 g' g5' g6' g7' g8' g9') (hi : (i : Int) = b) (hq : ∀ j, j ≠ i → q j = g5' j) : KB b g g5 g6 g7 g8 g9 g' q g6' g7' g8' g9' := ⟨fun j hj => ⟨(hq j (by omega)).trans (h.1 j hj).1, (h.1 j hj).2⟩, h.2⟩
theorem KB_6 (h : KB b g g5 g6 g7 g8 g9 g' g5' g6' g7' g8' g9') (hi : (i : Int) = b) (hq : ∀ j, j ≠ i → q j = g6' j) : KB b g g5 g6 g7 g8 g9 g' g5' q g7' g8' g9' := ⟨fun j hj => ⟨(h.1 j hj).1, (hq j (by omega)).trans (h.1 j hj).2.1, (h.1 j hj).2.2⟩, h.2⟩
theorem KB_7 (h : KB b g g5 g6 g7 g8 g9 g' g5' g6' g7' g8' g9') (hi : (i : Int) = b) (hq : ∀ j, j ≠ i → q j = g7' j) : KB b g g5 g6 g7 g8 g9 g' g5' g6' q g8' g9' := ⟨fun j hj => ⟨(h.1 j hj).1, (h.1 j hj).2.1, (hq j (by omega)).trans (h.1 j hj).2.2⟩, h.2⟩
theorem KB_8 (h : KB b g g5 g6 g7 g8 g9 g' g5' g6' g7' g8' g9') (hi : 6 * b ≤ (i : Int) ∧ (i : Int) < 6 * b + 6) (hq : ∀ j, j ≠ i → q j = g8' j) : KB b g g5 g6 g7 g8 g9 g' g5' g6' g7' q g9' := ⟨h.1, fun j hj => (hq j (by omega)).trans (h.2.1 j hj), h.2.2⟩
theorem KB_9 (h : KB b g g5 g6 g7 g8 g9 g' g5' g6' g7' g8' g9') (hi : 4 * b ≤ (i : Int) ∧ (i : Int) < 4 * b + 4) (hq : ∀ j, j ≠ i → q j = g9' j) : KB b g g5 g6 g7 g8 g9 g' g5' g6' g7' g8' q := ⟨h.1, h.2.1, fun j hj => (hq j (by omega)).trans (h.2.2.1 j hj), h.2.2.2⟩
theorem KB_p {a : Int} (h : KB b g g5 g6 g7 g8 g9 g' g5' g6' g7' g8' g9') (ha : 21812 + 328 * b ≤ a ∧ a + 41 ≤ 21812 + 328 * b + 328) (hq : ∀ j : Nat, (j : Int) < a ∨ a + 41 ≤ (j : Int) → q j = g' j) : KB b g g5 g6 g7 g8 g9 q g5' g6' g7' g8' g9' := ⟨h.1, h.2.1, h.2.2.1, fun j hj => (hq j (by omega)).trans (h.2.2.2 j hj)⟩
theorem KB_b {b' : Int} (h : KB b g g5 g6 g7 g8 g9 g' g5' g6' g7' g8' g9') (e : b' = b) : KB b' g g5 g6 g7 g8 g9 g' g5' g6' g7' g8' g9' := by rw [e]; exact h
theorem MI_bank {σ : mSig} {ga gx : Nat → Int32} {c st th : Int} (h : MI σ g g5 g6 g7 g8 g9 ga gx c st th) (hK : KB b g g5 g6 g7 g8 g9 g' g5' g6' g7' g8' g9') (hb : b = 1 - c) (h40 : st ≤ 40) : MI σ g' g5' g6' g7' g8' g9' ga gx c st th := by
  obtain ⟨⟨b0, b1, a3, a4, a5, a6, a7, a8⟩, h2, h3, h4, h5, h6⟩ := h
  obtain ⟨k1, k2, k3, k4⟩ := hK
  have kk := k1 c.toNat (by omega)
  refine ⟨⟨b0, b1, by rw [kk.1]; exact a3, a4, by rw [kk.2.1]; exact a5, a6, fun r hr => by rw [k2 _ (by omega)]; exact a7 r hr, fun r hr => by rw [k3 _ (by omega)]; exact a8 r hr⟩, PSt_keep h2 h40 (fun k hk => k4 k (by omega)), fun k hk q => Fm_keep (h3 k hk q) (fun j _ _ => k4 j (by omega)), fun k hk q => FmC_keep (h4 k (by rw [← kk.2.2]; exact hk) q) (fun j _ _ => k4 j (by omega)), ?_, fun i k q hk q2 => Fm_keep (h6 i k q hk q2) (fun j _ _ => k4 j (by omega))⟩
  rcases h5 with z | z
  · left; rw [k4 25748 (by omega)]; exact z
  · exact Or.inr (Fm_keep z (fun j _ _ => k4 j (by omega)))
theorem MI_new {σ : mSig} {ga gx : Nat → Int32} {st th : Int} (h : TH σ g g5 g6 g7 g8 g9 b) (hs : st = 0) (ht : th = 0) (hr : (g 25748).toInt = 0) (hx : ∀ i : Nat, i < 3 → (gx i).toInt = -1) : MI σ g g5 g6 g7 g8 g9 ga gx b st th := ⟨h.1, fun j hj => by omega, fun k hk _ => by omega, h.2, Or.inl hr, fun i k q hk _ => by have := hx i q; omega⟩
end PKB
theorem TH_keep {σ : mSig} {g g' g5 g6 g7 g8 g9 : Nat → Int32} {b : Int} (h : TH σ g g5 g6 g7 g8 g9 b) (ho : ∀ k : Nat, (k : Int) < 25748 → g' k = g k) : TH σ g' g5 g6 g7 g8 g9 b := by
  obtain ⟨b0, b1, -⟩ := id h.1
  exact ⟨h.1, fun k hk h8 => FmC_keep (h.2 k hk h8) (fun j _ _ => ho j (by omega))⟩
