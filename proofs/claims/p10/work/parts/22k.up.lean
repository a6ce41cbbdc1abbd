theorem PSt_le {σ : mSig} {g ga : Nat → Int32} {i i' : Int} (h : PSt σ g ga i) (hi : i' ≤ i) : PSt σ g ga i' := fun j hj => h j (by omega)
theorem PSt_up {σ : mSig} {g g' ga ga' : Nat → Int32} {i n : Int} {ml : List Nat} (h : PSt σ g ga i) (h0 : 0 ≤ i) (h40 : i < 40) (hA : As σ g i n) (hr : Rw g' (41 * i) ml) (hw : wf σ 5 ml [(true, 0)]) (ho : ∀ k : Nat, (k : Int) < 41 * i ∨ 41 * i + 41 ≤ (k : Int) → g' k = g k) (ha : ∀ j : Nat, (j : Int) ≠ i → ga' j = ga j) (hn : (ga' i.toNat).toInt = n) : PSt σ g' ga' (i + 1) := by
  have kp : ∀ {j m : Int}, 0 ≤ j → As σ g j m → As σ g' j m := fun {j m} hj hA k hk h12 => Fm_keep (hA k hk h12) (fun q h1 h2 => ho q (by omega))
  intro j hj
  by_cases e : (j : Int) = i
  · have e2 : j = i.toNat := by omega
    refine ⟨by rw [e]; exact ⟨ml, hr, hw⟩, ?_⟩
    rw [e2, hn, show ((i.toNat : Nat) : Int) = i from by omega]
    exact kp h0 hA
  · obtain ⟨h1, h2⟩ := h j (by omega)
    refine ⟨Fm_keep h1 (fun q h3 h4 => ho q (by omega)), ?_⟩
    rw [ha j e]
    exact kp (by omega) h2
/-- what prove knows of step i before its premises are looked at -/
def SB (σ : mSig) (g gk g1 : Nat → Int32) (bk th i : Int) : Prop := ((gk i.toNat).toInt ≠ 0 → (gk i.toNat).toInt ≠ 15 → 0 ≤ (g1 i.toNat).toInt) ∧ ((gk i.toNat).toInt = 0 ∨ (gk i.toNat).toInt = 6 ∨ (gk i.toNat).toInt = 7 ∨ (gk i.toNat).toInt = 10 ∨ (gk i.toNat).toInt = 13 ∨ 16 ≤ (gk i.toNat).toInt → Fm σ g (22468 + 41 * i)) ∧ ((gk i.toNat).toInt = 12 ∨ (gk i.toNat).toInt = 13 ∨ (gk i.toNat).toInt = 15 → Tm σ g (24108 + 41 * i)) ∧ ((gk i.toNat).toInt = 1 → Fm σ g (21812 + 41 * (8 * bk + (g1 i.toNat).toInt))) ∧ (∀ k : Nat, (k : Int) < th → Fm σ g (21320 + 41 * k))
theorem SB_SC {σ : mSig} {g ga gk g1 g2 g3 : Nat → Int32} {bk th i : Int} (h : SB σ g gk g1 bk th i) (hP : PSt σ g ga i) (a : 0 ≤ i ∧ i < 40 ∧ 0 ≤ bk ∧ 0 ≤ (g2 i.toNat).toInt ∧ 0 ≤ (g3 i.toNat).toInt) (p1 : (gk i.toNat).toInt ≠ 0 → (gk i.toNat).toInt ≠ 1 → (gk i.toNat).toInt ≠ 2 → (gk i.toNat).toInt ≠ 15 → (g1 i.toNat).toInt < i) (p2 : (gk i.toNat).toInt = 3 ∨ (gk i.toNat).toInt = 9 ∨ (gk i.toNat).toInt = 14 ∨ (gk i.toNat).toInt = 16 ∨ (gk i.toNat).toInt = 8 → (g2 i.toNat).toInt < i) (p3 : (gk i.toNat).toInt = 8 → (g3 i.toNat).toInt < i) (p4 : (gk i.toNat).toInt = 2 → (g1 i.toNat).toInt < th) : SC σ g ga gk g1 g2 g3 bk i := by
  obtain ⟨h0, h1, h2, h3, h4⟩ := h
  refine ⟨⟨a.1, a.2.1, a.2.2.1, h0, a.2.2.2⟩, hP, p1, p2, p3, h1, h2, h3, fun z => ?_⟩
  have := h4 (g1 i.toNat).toInt.toNat (by have := p4 z; omega)
  rw [show ((((g1 i.toNat).toInt.toNat : Nat)) : Int) = (g1 i.toNat).toInt from by omega] at this
  exact this
/-- isRow also where nothing was made -/
theorem mt_228 {x : Nat → Nat → Nat} {t : Int32} {s : ps_S} {d : Nat} {f : Int32 → ps_S → Prop} (J : mJ x t s) {σ : mSig} {ml : List Nat} (hS : Sg (ps_a s 1135) (ps_a s 1136) (ps_a s 1138) (ps_a s 1139) (ps_i s 1131 21).toInt σ) (hM : Md (ps_a s 1149) (ps_i s 1131 34).toInt ml) (h : ws σ ml [true] ∨ ml = []) (k : ∀ (v : Int32) (s' : ps_S), mJ x t s' → kp [1150, 1151] [] s s' → (v.toInt = 0 ∨ (ml.length ≤ 40 ∧ (wf σ 5 ml [(true, 0)] ∨ ml = []))) → v &&& 1 = v → f v s') : ps_Cl (d + 1) 228 [.ref 1131] s (ps_rI f) := by
  rcases h with h | h
  · exact ms_228 J hS hM h (fun v s' J' K' p b => k v s' J' K' (p.imp id (fun z => ⟨z.1, Or.inl z.2⟩)) b)
  · subst h
    have h34 : (ps_i s 1131 34).toInt = 0 := hM.1
    refine pg_228_0 (d := d) (And.intro (fun h1 => ?_) (fun h1 => ?_))
    · refine pg_228_17 (d := d) (And.intro (fun h2 => ?_) (fun h2 => ?_))
      · exact k 1 s J kp_refl (Or.inr ⟨by decide, Or.inr rfl⟩) (by decide)
      · have f2 : (0 : Int) < (ps_i s 1131 34).toInt := xlt h2
        omega
    · have f2 : (40 : Int) < (ps_i s 1131 34).toInt := xlt h1
      omega
