theorem wf_ne {σ : mSig} {c : Nat} {l : List Nat} {w : Bool × Nat} {W : List (Bool × Nat)} (h : wf σ c l (w :: W)) : ∃ p l', l = p :: l' := by
  cases l with
  | nil => cases h
  | cons p l' => exact ⟨p, l', rfl⟩
/-- what a rule makes: a formula, or nothing and a cause -/
def Res (σ : mSig) (gm : Nat → Int32) (n c : Int) : Prop := ∃ ml, Md gm n ml ∧ ml.length ≤ 9000 ∧ (ws σ ml [true] ∨ (ml = [] ∧ 1 ≤ c))
theorem Res_c {σ : mSig} {gm : Nat → Int32} {n c c' : Int} (h : Res σ gm n c) (hc : c ≤ c') : Res σ gm n c' := by
  obtain ⟨ml, h1, h2, h3⟩ := h
  exact ⟨ml, h1, h2, h3.imp id (fun z => ⟨z.1, by omega⟩)⟩
/-- what stands before step i is taken -/
def SC (σ : mSig) (g ga gk g1 g2 g3 : Nat → Int32) (bk i : Int) : Prop := (0 ≤ i ∧ i < 40 ∧ 0 ≤ bk ∧ ((gk i.toNat).toInt ≠ 0 → (gk i.toNat).toInt ≠ 15 → 0 ≤ (g1 i.toNat).toInt) ∧ 0 ≤ (g2 i.toNat).toInt ∧ 0 ≤ (g3 i.toNat).toInt) ∧ PSt σ g ga i ∧ ((gk i.toNat).toInt ≠ 0 → (gk i.toNat).toInt ≠ 1 → (gk i.toNat).toInt ≠ 2 → (gk i.toNat).toInt ≠ 15 → (g1 i.toNat).toInt < i) ∧ ((gk i.toNat).toInt = 3 ∨ (gk i.toNat).toInt = 9 ∨ (gk i.toNat).toInt = 14 ∨ (gk i.toNat).toInt = 16 ∨ (gk i.toNat).toInt = 8 → (g2 i.toNat).toInt < i) ∧ ((gk i.toNat).toInt = 8 → (g3 i.toNat).toInt < i) ∧ ((gk i.toNat).toInt = 0 ∨ (gk i.toNat).toInt = 6 ∨ (gk i.toNat).toInt = 7 ∨ (gk i.toNat).toInt = 10 ∨ (gk i.toNat).toInt = 13 ∨ 16 ≤ (gk i.toNat).toInt → Fm σ g (22468 + 41 * i)) ∧ ((gk i.toNat).toInt = 12 ∨ (gk i.toNat).toInt = 13 ∨ (gk i.toNat).toInt = 15 → Tm σ g (24108 + 41 * i)) ∧ ((gk i.toNat).toInt = 1 → Fm σ g (21812 + 41 * (8 * bk + (g1 i.toNat).toInt))) ∧ ((gk i.toNat).toInt = 2 → Fm σ g (21320 + 41 * (g1 i.toNat).toInt))
section PSC
variable {σ : mSig} {g g' ga gk g1 g2 g3 : Nat → Int32} {bk i : Int}
theorem SC_out (h : SC σ g ga gk g1 g2 g3 bk i) (ho : OutB g g' i) : SC σ g' ga gk g1 g2 g3 bk i := by
  obtain ⟨⟨a1, a2, a3, a4, a5, a6⟩, h1, h2, h3, h4, h5, h6, h7, h8⟩ := h
  exact ⟨⟨a1, a2, a3, a4, a5, a6⟩, PSt_out h1 ho (by omega), h2, h3, h4, fun z => Fm_out (h5 z) ho (by omega), fun z => Tm_out (h6 z) ho (by omega), fun z => Fm_out (h7 z) ho (by omega), fun z => Fm_out (h8 z) ho (by omega)⟩
theorem SC_p (h : SC σ g ga gk g1 g2 g3 bk i) : PSt σ g ga i := h.2.1
theorem SC_1 (h : SC σ g ga gk g1 g2 g3 bk i) {x1 : Int32} {j : Int32} (hi : x1.toInt = i) (hj : j.toInt = 41 * (g1 (Int32.toNatClampNeg x1)).toInt) (h0 : (gk (Int32.toNatClampNeg x1)).toInt ≠ 0 ∧ (gk (Int32.toNatClampNeg x1)).toInt ≠ 1 ∧ (gk (Int32.toNatClampNeg x1)).toInt ≠ 2 ∧ (gk (Int32.toNatClampNeg x1)).toInt ≠ 15) : Fm σ g j.toInt ∧ (g1 (Int32.toNatClampNeg x1)).toInt < i := by
  subst hi
  have q := h.2.2.1 h0.1 h0.2.1 h0.2.2.1 h0.2.2.2
  have q0 := h.1.2.2.2.1 h0.1 h0.2.2.2
  have := (h.2.1 (g1 x1.toInt.toNat).toInt.toNat (by omega)).1
  rw [show ((((g1 x1.toInt.toNat).toInt.toNat : Nat)) : Int) = (g1 x1.toInt.toNat).toInt from by omega] at this
  exact ⟨by rw [hj]; exact this, q⟩
theorem SC_2 (h : SC σ g ga gk g1 g2 g3 bk i) {x1 : Int32} {j : Int32} (hi : x1.toInt = i) (hj : j.toInt = 41 * (g2 (Int32.toNatClampNeg x1)).toInt) (h0 : (gk (Int32.toNatClampNeg x1)).toInt = 3 ∨ (gk (Int32.toNatClampNeg x1)).toInt = 9 ∨ (gk (Int32.toNatClampNeg x1)).toInt = 14 ∨ (gk (Int32.toNatClampNeg x1)).toInt = 16 ∨ (gk (Int32.toNatClampNeg x1)).toInt = 8) : Fm σ g j.toInt ∧ (g2 (Int32.toNatClampNeg x1)).toInt < i := by
  subst hi
  have q := h.2.2.2.1 h0
  have q0 := h.1.2.2.2.2.1
  have := (h.2.1 (g2 x1.toInt.toNat).toInt.toNat (by omega)).1
  rw [show ((((g2 x1.toInt.toNat).toInt.toNat : Nat)) : Int) = (g2 x1.toInt.toNat).toInt from by omega] at this
  exact ⟨by rw [hj]; exact this, q⟩
theorem SC_3 (h : SC σ g ga gk g1 g2 g3 bk i) {x1 : Int32} {j : Int32} (hi : x1.toInt = i) (hj : j.toInt = 41 * (g3 (Int32.toNatClampNeg x1)).toInt) (h0 : (gk (Int32.toNatClampNeg x1)).toInt = 8) : Fm σ g j.toInt ∧ (g3 (Int32.toNatClampNeg x1)).toInt < i := by
  subst hi
  have q := h.2.2.2.2.1 h0
  have q0 := h.1.2.2.2.2.2
  have := (h.2.1 (g3 x1.toInt.toNat).toInt.toNat (by omega)).1
  rw [show ((((g3 x1.toInt.toNat).toInt.toNat : Nat)) : Int) = (g3 x1.toInt.toNat).toInt from by omega] at this
  exact ⟨by rw [hj]; exact this, q⟩
theorem SC_f (h : SC σ g ga gk g1 g2 g3 bk i) {x1 : Int32} {j : Int32} (hi : x1.toInt = i) (hj : j.toInt = 22468 + 41 * x1.toInt) (h0 : (gk (Int32.toNatClampNeg x1)).toInt = 0 ∨ (gk (Int32.toNatClampNeg x1)).toInt = 6 ∨ (gk (Int32.toNatClampNeg x1)).toInt = 7 ∨ (gk (Int32.toNatClampNeg x1)).toInt = 10 ∨ (gk (Int32.toNatClampNeg x1)).toInt = 13 ∨ 16 ≤ (gk (Int32.toNatClampNeg x1)).toInt) : Fm σ g j.toInt := by
  subst hi
  rw [hj]
  exact h.2.2.2.2.2.1 h0
theorem SC_t (h : SC σ g ga gk g1 g2 g3 bk i) {x1 : Int32} {j : Int32} (hi : x1.toInt = i) (hj : j.toInt = 24108 + 41 * x1.toInt) (h0 : (gk (Int32.toNatClampNeg x1)).toInt = 12 ∨ (gk (Int32.toNatClampNeg x1)).toInt = 13 ∨ (gk (Int32.toNatClampNeg x1)).toInt = 15) : Tm σ g j.toInt := by
  subst hi
  rw [hj]
  exact h.2.2.2.2.2.2.1 h0
theorem SC_ax (h : SC σ g ga gk g1 g2 g3 bk i) {x1 : Int32} {j : Int32} (hi : x1.toInt = i) (hj : j.toInt = 21812 + 41 * (8 * bk + (g1 (Int32.toNatClampNeg x1)).toInt)) (h0 : (gk (Int32.toNatClampNeg x1)).toInt = 1) : Fm σ g j.toInt := by
  subst hi
  rw [hj]
  exact h.2.2.2.2.2.2.2.1 h0
theorem SC_th (h : SC σ g ga gk g1 g2 g3 bk i) {x1 : Int32} {j : Int32} (hi : x1.toInt = i) (hj : j.toInt = 21320 + 41 * (g1 (Int32.toNatClampNeg x1)).toInt) (h0 : (gk (Int32.toNatClampNeg x1)).toInt = 2) : Fm σ g j.toInt := by
  subst hi
  rw [hj]
  exact h.2.2.2.2.2.2.2.2 h0
end PSC
section PSD
variable {σ : mSig} {g g' ga gk g1 g2 g3 : Nat → Int32} {bk i : Int}
theorem SC_l1 (h : SC σ g ga gk g1 g2 g3 bk i) {x1 : Int32} (hi : x1.toInt = i) (h0 : (gk (Int32.toNatClampNeg x1)).toInt ≠ 0 ∧ (gk (Int32.toNatClampNeg x1)).toInt ≠ 1 ∧ (gk (Int32.toNatClampNeg x1)).toInt ≠ 2 ∧ (gk (Int32.toNatClampNeg x1)).toInt ≠ 15) : (g1 (Int32.toNatClampNeg x1)).toInt < i := by
  subst hi
  exact h.2.2.1 h0.1 h0.2.1 h0.2.2.1 h0.2.2.2
theorem SC_l2 (h : SC σ g ga gk g1 g2 g3 bk i) {x1 : Int32} (hi : x1.toInt = i) (h0 : (gk (Int32.toNatClampNeg x1)).toInt = 3 ∨ (gk (Int32.toNatClampNeg x1)).toInt = 9 ∨ (gk (Int32.toNatClampNeg x1)).toInt = 14 ∨ (gk (Int32.toNatClampNeg x1)).toInt = 16 ∨ (gk (Int32.toNatClampNeg x1)).toInt = 8) : (g2 (Int32.toNatClampNeg x1)).toInt < i := by
  subst hi
  exact h.2.2.2.1 h0
theorem SC_l3 (h : SC σ g ga gk g1 g2 g3 bk i) {x1 : Int32} (hi : x1.toInt = i) (h0 : (gk (Int32.toNatClampNeg x1)).toInt = 8) : (g3 (Int32.toNatClampNeg x1)).toInt < i := by
  subst hi
  exact h.2.2.2.2.1 h0
end PSD
section PSE
variable {σ : mSig} {g g' ga gk g1 g2 g3 : Nat → Int32} {bk i : Int}
theorem SC_1i (h : SC σ g ga gk g1 g2 g3 bk i) {x1 : Int32} (hi : x1.toInt = i) (h0 : (gk (Int32.toNatClampNeg x1)).toInt ≠ 0 ∧ (gk (Int32.toNatClampNeg x1)).toInt ≠ 1 ∧ (gk (Int32.toNatClampNeg x1)).toInt ≠ 2 ∧ (gk (Int32.toNatClampNeg x1)).toInt ≠ 15) : Fm σ g (41 * (g1 (Int32.toNatClampNeg x1)).toInt) := by
  subst hi
  have q := h.2.2.1 h0.1 h0.2.1 h0.2.2.1 h0.2.2.2
  have q0 := h.1.2.2.2.1 h0.1 h0.2.2.2
  have := (h.2.1 (g1 x1.toInt.toNat).toInt.toNat (by omega)).1
  rw [show ((((g1 x1.toInt.toNat).toInt.toNat : Nat)) : Int) = (g1 x1.toInt.toNat).toInt from by omega] at this
  exact this
theorem SC_2i (h : SC σ g ga gk g1 g2 g3 bk i) {x1 : Int32} (hi : x1.toInt = i) (h0 : (gk (Int32.toNatClampNeg x1)).toInt = 3 ∨ (gk (Int32.toNatClampNeg x1)).toInt = 9 ∨ (gk (Int32.toNatClampNeg x1)).toInt = 14 ∨ (gk (Int32.toNatClampNeg x1)).toInt = 16 ∨ (gk (Int32.toNatClampNeg x1)).toInt = 8) : Fm σ g (41 * (g2 (Int32.toNatClampNeg x1)).toInt) := by
  subst hi
  have q := h.2.2.2.1 h0
  have q0 := h.1.2.2.2.2.1
  have := (h.2.1 (g2 x1.toInt.toNat).toInt.toNat (by omega)).1
  rw [show ((((g2 x1.toInt.toNat).toInt.toNat : Nat)) : Int) = (g2 x1.toInt.toNat).toInt from by omega] at this
  exact this
theorem SC_3i (h : SC σ g ga gk g1 g2 g3 bk i) {x1 : Int32} (hi : x1.toInt = i) (h0 : (gk (Int32.toNatClampNeg x1)).toInt = 8) : Fm σ g (41 * (g3 (Int32.toNatClampNeg x1)).toInt) := by
  subst hi
  have q := h.2.2.2.2.1 h0
  have q0 := h.1.2.2.2.2.2
  have := (h.2.1 (g3 x1.toInt.toNat).toInt.toNat (by omega)).1
  rw [show ((((g3 x1.toInt.toNat).toInt.toNat : Nat)) : Int) = (g3 x1.toInt.toNat).toInt from by omega] at this
  exact this
end PSE
theorem Rw_out {g g' : Nat → Int32} {a i : Int} {l : List Nat} (h : Rw g a l) (ho : OutB g g' i) (hi : a + 41 ≤ 1640 + 492 * i ∨ 1640 + 492 * i + 492 ≤ a) : Rw g' a l := Rw_keep h (fun k h1 h2 => ho k (by omega))

theorem SC_g0 {σ : mSig} {g ga gk g1 g2 g3 : Nat → Int32} {bk i : Int} (h : SC σ g ga gk g1 g2 g3 bk i) {x1 : Int32} (hi : x1.toInt = i) : (gk (Int32.toNatClampNeg x1)).toInt ≠ 0 → (gk (Int32.toNatClampNeg x1)).toInt ≠ 15 → 0 ≤ (g1 (Int32.toNatClampNeg x1)).toInt := by
  subst hi
  exact h.1.2.2.2.1
