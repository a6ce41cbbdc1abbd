set_option maxRecDepth 100000
/-- too much: pieces, depth, or what is assumed -/
theorem fs_41 {n p i th : Nat} {g : tx_g} {L : List Nat} {b12 : Prop} {s : ps_S} {R : Int32 → ps_S → Prop} (hp : p = 50 ∨ p = 460) (hi : i < 40) (hth : th = 2 ∨ th = 26) (h6 : ps_r s p 6 = th) (H : cv_E s th g) (hw : L.length ≤ 40 → ws (sg g) L [true]) (W : CW s (stc p i + 6) L) (hb : ps_i s (stc p i) 9 = 0 ↔ b12) (k1 : ∀ s', (¬ (L.length ≤ 40 ∧ b12 ∧ dp (arh g) L)) ∧ cfr (CSh (p + 16)) s s' → R 1 s') (k0 : ∀ s', (L.length ≤ 40 ∧ b12 ∧ dp (arh g) L) ∧ cfr (CSh (p + 16)) s s' → R 0 s') : pl_Cl n 41 [.ref p, .ref (stc p i)] s (ps_rI R) := by
  cases n with
  | zero => exact pl_At_0
  | succ n =>
  show pl_At (n + 1) 41 0 [(0, .ref p), (1, .ref (stc p i))] [] s (ps_rI R)
  obtain ⟨-, -, ⟨-, -, -, -, -, c5⟩, -, -, -, i6, -⟩ := prf hp
  have hl := stc_lt hp hi
  obtain ⟨cc1, cc4, cc5, cc6, cc8⟩ := stc_c hp hi
  refine pl_41_0 (pl_nk_i (fun _ => ?_))
  rw [cc6]
  refine pl_nk_i (fun _ => ⟨fun z => ?_, fun z => pl_nk_i (fun _ => ⟨fun z2 => ?_, fun z2 => ?_⟩)⟩)
  · exact k1 s ⟨fun y => z (W.2.1 y.1).2.1, cfr_refl⟩
  · have h40 : L.length ≤ 40 := by
      rcases Nat.lt_or_ge 40 L.length with y | y
      · exact absurd z (W.2.2 y)
      · exact y
    refine pl_nk_i (fun _ => pl_nk_i (fun _ => pl_nk_i (fun _ => ?_)))
    rw [c5, h6]
    refine fs_103 (r := p + 16) (r1 := stc p i + 6) (l := L) i6 (stc_row hp hi).2.2 hth (by omega) (hw h40) (Or.inl rfl) (W.2.1 h40) H (fun s1 Z F1 => pl_nk_i (fun _ => ?_))
    exact fs_106 i6 Z.2 (fun u => pl_nk_i (fun _ => k1 s1 ⟨fun y => u y.2.2, F1⟩)) (fun u => pl_nk_i (fun _ => k0 s1 ⟨⟨h40, hb.mp z2, u⟩, F1⟩))
  · exact k1 s ⟨fun y => z2 (hb.mpr y.2.1), cfr_refl⟩
