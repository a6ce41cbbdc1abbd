set_option maxRecDepth 100000
/-! theory() once more: what both sides hold behind it -/
def TRc (s : ps_S) (h : tx_H) (l : List Nat) : Prop := cv_H s (ps_r s 0 2) h ∧ ((ps_r s 0 2 = 2 ∧ ps_r s 0 3 = 26) ∨ (ps_r s 0 2 = 26 ∧ ps_r s 0 3 = 2)) ∧ cv_W s 934 l
def KT (s : ps_S) (t : Int32) (v : Int32) (s1 : ps_S) : Prop := (∃ (h : tx_H) (p : Nat), gt_go (tx_ln (TT s) t.toInt.toNat) (0, (([], []), []), 0, 0) (3, h, p, 0) ∧ v.toInt = h.2.length ∧ TRc s1 h []) ∨ ((∃ (h : tx_H) (pl k : Nat), gt_go (tx_ln (TT s) t.toInt.toNat) (0, (([], []), []), 0, 0) (4, h, pl, k) ∧ v.toInt = -1) ∧ ∀ h l, TRc s h l → TRc s1 h l)
theorem KT_x {s : ps_S} {t : Int32} (hI : LI s t) (hF : LF s t) (hG : LG s) (n : Nat) : pl_Cl n 151 [.ref 0] s (ps_rI (fun v s1 => KT s t v s1)) := by
  have ht := LI_t hI
  have e : ps_i s 0 1 = t := hI.2.1.2.1
  obtain ⟨h0, l0, b0, -, -, -, -, hr, -, -⟩ := hG
  rcases hr with ⟨r2, r3⟩ | ⟨r2, r3⟩
  · refine fs_151s (th := 26) (th2 := 2) (Or.inr rfl) r3 r2 hF.2.2.2.1 (by rw [e]; omega) (by omega) (fun k _ => bytes_T) hF.2.1 (fun v s' h p g hv H r W _ => Or.inl ⟨h, p, g, hv, ?_⟩) (fun s' h p k g _ _ F r => Or.inr ⟨⟨h, p, k, g, by decide⟩, fun h1 l1 z => ?_⟩)
    · exact ⟨by rw [r.1]; exact H, Or.inr r, W⟩
    · obtain ⟨z1, z2, z3⟩ := z
      rw [r2] at z1
      refine ⟨by rw [r.1]; exact cv_H_cfr z1 F (fun q a b c => by have := z1.2.2.1; unfold cv_HC at c; omega), Or.inl r, cv_W_cfr z3 F (fun c => by unfold cv_HC at c; omega) (fun c => by unfold cv_HC at c; omega)⟩
  · refine fs_151s (th := 2) (th2 := 26) (Or.inl rfl) r3 r2 hF.2.2.1 (by rw [e]; omega) (by omega) (fun k _ => bytes_T) hF.2.1 (fun v s' h p g hv H r W _ => Or.inl ⟨h, p, g, hv, ?_⟩) (fun s' h p k g _ _ F r => Or.inr ⟨⟨h, p, k, g, by decide⟩, fun h1 l1 z => ?_⟩)
    · exact ⟨by rw [r.1]; exact H, Or.inl r, W⟩
    · obtain ⟨z1, z2, z3⟩ := z
      rw [r2] at z1
      refine ⟨by rw [r.1]; exact cv_H_cfr z1 F (fun q a b c => by have := z1.2.2.1; unfold cv_HC at c; omega), Or.inr r, cv_W_cfr z3 F (fun c => by unfold cv_HC at c; omega) (fun c => by unfold cv_HC at c; omega)⟩
theorem TRc_det {w : pm_W} {s s' : ps_S} {h : tx_H} {l : List Nat} (R : ps_R w s) (R' : ps_R w s') (H : TRc s h l) : TRc s' h l := by
  obtain ⟨z1, z2, z3⟩ := H
  have f2 : ps_r s 0 2 = ps_r s' 0 2 := Value.ref.inj (ps_det_f R R' (r := 0) (c := 11) (q := 2) (by decide) rfl (by decide))
  have f3 : ps_r s 0 3 = ps_r s' 0 3 := Value.ref.inj (ps_det_f R R' (r := 0) (c := 11) (q := 3) (by decide) rfl (by decide))
  have hth : ps_r s 0 2 = 2 ∨ ps_r s 0 2 = 26 := by omega
  refine ⟨by rw [← f2]; exact cv_H_det R R' hth z1, by rw [← f2, ← f3]; exact z2, cv_W_det R R' (by decide) rfl rfl z3⟩
/-- the reference's part -/
def TRm (s : ps_S) (h : tx_H) (l : List Nat) : Prop := ∃ b : Nat, b < 2 ∧ (ps_i s 1131 21).toInt = b ∧ mv_H s b h ∧ mv_W s 25748 l
theorem LG_of {s : ps_S} {h : tx_H} {l : List Nat} (c : TRc s h l) (m : TRm s h l) : LG s := by
  obtain ⟨c1, c2, c3⟩ := c
  obtain ⟨b, m1, m2, m3, m4⟩ := m
  exact ⟨h, l, b, m1, m2, c1, m3, c2, c3, m4⟩
theorem LG_to {s : ps_S} (g : LG s) : ∃ h l, TRc s h l ∧ TRm s h l := by
  obtain ⟨h, l, b, m1, m2, c1, m3, c2, c3, m4⟩ := g
  exact ⟨h, l, ⟨c1, c2, c3⟩, b, m1, m2, m3, m4⟩
theorem TRm_det {w : pm_W} {s s' : ps_S} {h : tx_H} {l : List Nat} (R : ps_R w s) (R' : ps_R w s') (H : TRm s h l) : TRm s' h l := by
  obtain ⟨b, m1, m2, m3, m4⟩ := H
  exact ⟨b, m1, by rw [← det_i R R' (r := 1131) (c := 12) (q := 21) (by decide) rfl (by decide) (Or.inl rfl)]; exact m2, mv_H_det R R' m1 m3, mv_W_det R R' (by decide) m4⟩
