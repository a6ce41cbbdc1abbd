/-- a row that is a formula, a term -/
def Fm (σ : mSig) (g : Nat → Int32) (a : Int) : Prop := ∃ l, Rw g a l ∧ wf σ 5 l [(true, 0)]
def Tm (σ : mSig) (g : Nat → Int32) (a : Int) : Prop := ∃ l, Rw g a l ∧ wf σ 5 l [(false, 0)]
theorem Fm_keep {σ : mSig} {g g' : Nat → Int32} {a : Int} (h : Fm σ g a) (hj : ∀ i : Nat, a ≤ i → (i : Int) < a + 41 → g' i = g i) : Fm σ g' a := by
  obtain ⟨l, h1, h2⟩ := h
  exact ⟨l, Rw_keep h1 hj, h2⟩
theorem Tm_keep {σ : mSig} {g g' : Nat → Int32} {a : Int} (h : Tm σ g a) (hj : ∀ i : Nat, a ≤ i → (i : Int) < a + 41 → g' i = g i) : Tm σ g' a := by
  obtain ⟨l, h1, h2⟩ := h
  exact ⟨l, Rw_keep h1 hj, h2⟩
theorem Fm_r {σ : mSig} {g : Nat → Int32} {a : Int} (h : Fm σ g a) : a % 41 = 0 ∧ 0 ≤ a ∧ a < 27306 := by
  obtain ⟨l, h1, h2⟩ := h
  exact ⟨h1.1, h1.2.1, h1.2.2.1⟩
theorem Tm_r {σ : mSig} {g : Nat → Int32} {a : Int} (h : Tm σ g a) : a % 41 = 0 ∧ 0 ≤ a ∧ a < 27306 := by
  obtain ⟨l, h1, h2⟩ := h
  exact ⟨h1.1, h1.2.1, h1.2.2.1⟩
/-- the first n assumed rows of step i -/
def As (σ : mSig) (g : Nat → Int32) (i n : Int) : Prop := ∀ k : Nat, (k : Int) < n → k < 12 → Fm σ g (1640 + 41 * (12 * i + k))
/-- all but step i's assumed rows is as it was -/
def OutB (g g' : Nat → Int32) (i : Int) : Prop := ∀ k : Nat, (k : Int) < 1640 + 492 * i ∨ 1640 + 492 * i + 492 ≤ (k : Int) → g' k = g k
theorem OutB_refl {g : Nat → Int32} {i : Int} : OutB g g i := fun _ _ => rfl
theorem OutB_tr {g g' g'' : Nat → Int32} {i : Int} (h : OutB g g' i) (h' : OutB g' g'' i) : OutB g g'' i := fun k hk => (h' k hk).trans (h k hk)
theorem Fm_out {σ : mSig} {g g' : Nat → Int32} {a i : Int} (h : Fm σ g a) (ho : OutB g g' i) (hi : a + 41 ≤ 1640 + 492 * i ∨ 1640 + 492 * i + 492 ≤ a) : Fm σ g' a := Fm_keep h (fun k h1 h2 => ho k (by omega))
theorem Tm_out {σ : mSig} {g g' : Nat → Int32} {a i : Int} (h : Tm σ g a) (ho : OutB g g' i) (hi : a + 41 ≤ 1640 + 492 * i ∨ 1640 + 492 * i + 492 ≤ a) : Tm σ g' a := Tm_keep h (fun k h1 h2 => ho k (by omega))
theorem As_0 {σ : mSig} {g : Nat → Int32} {i : Int} : As σ g i 0 := fun k hk _ => by omega
theorem As_more {σ : mSig} {g : Nat → Int32} {i n n' : Int} (h : As σ g i n) (hn : 12 ≤ n) : As σ g i n' := fun k _ h12 => h k (by omega) h12
theorem As_put {σ : mSig} {g g' : Nat → Int32} {i n : Int} (h : As σ g i n) (h0 : 0 ≤ n) (hf : Fm σ g' (1640 + 41 * (12 * i + n))) (ho : ∀ k : Nat, (k : Int) < 1640 + 41 * (12 * i + n) ∨ 1640 + 41 * (12 * i + n) + 41 ≤ (k : Int) → g' k = g k) : As σ g' i (n + 1) := by
  intro k hk h12
  by_cases e : (k : Int) = n
  · rw [e]; exact hf
  · exact Fm_keep (h k (by omega) h12) (fun j h1 h2 => ho j (by omega))
/-- the steps before i: rows, what each assumes -/
def PSt (σ : mSig) (g ga : Nat → Int32) (i : Int) : Prop := ∀ j : Nat, (j : Int) < i → Fm σ g (41 * j) ∧ As σ g j (ga j).toInt
theorem PSt_out {σ : mSig} {g g' ga : Nat → Int32} {i : Int} (h : PSt σ g ga i) (ho : OutB g g' i) (h40 : i ≤ 40) : PSt σ g' ga i := by
  intro j hj
  obtain ⟨h1, h2⟩ := h j hj
  refine ⟨Fm_out h1 ho (by omega), fun k hk h12 => Fm_out (h2 k hk h12) ho (by omega)⟩
