theorem s1_T : xT ps_s1.1.2.2 := by
  intro r c q k h hF
  obtain ⟨hr, hk⟩ := ps_is_lt (c := c) (by
    unfold xF at hF
    split at hF <;> first | omega | cases hF) h
  have g := s1_every hr
  unfold s1_ok at g
  unfold ps_K pm_kind at hk
  split at hk
  · cases hk
  · next c' fs e =>
    cases hk
    rw [e] at g
    dsimp only at g
    rw [Bool.and_eq_true, Bool.and_eq_true] at g
    exact List.all_eq_true.mp g.2.2 _ (s1_xF_ok hF)
def s1_ra (r n : Nat) (a b : Int) : Bool := (List.range n).all (fun i => decide (a ≤ (ps_a ps_s1 r i).toInt) && decide ((ps_a ps_s1 r i).toInt ≤ b))
theorem s1_ra_ok {r n : Nat} {a b : Int} (h : s1_ra r n a b = true) : ∀ i, i < n → a ≤ (ps_a ps_s1 r i).toInt ∧ (ps_a ps_s1 r i).toInt ≤ b := fun i hi => by
  have := List.all_eq_true.mp h i (List.mem_range.mpr hi)
  rw [Bool.and_eq_true] at this
  exact ⟨of_decide_eq_true this.1, of_decide_eq_true this.2⟩
def s1_rf (q : Nat) (a b : Int) : Bool := decide (a ≤ (ps_i ps_s1 1131 q).toInt) && decide ((ps_i ps_s1 1131 q).toInt ≤ b)
theorem s1_rf_ok {q : Nat} {a b : Int} (h : s1_rf q a b = true) : a ≤ (ps_i ps_s1 1131 q).toInt ∧ (ps_i ps_s1 1131 q).toInt ≤ b := by
  unfold s1_rf at h
  rw [Bool.and_eq_true] at h
  exact ⟨of_decide_eq_true h.1, of_decide_eq_true h.2⟩
set_option maxRecDepth 1000000
theorem s1_pool : (List.range 666).all (fun k => decide (0 ≤ (ps_a ps_s1 1134 (41 * k)).toInt) && decide ((ps_a ps_s1 1134 (41 * k)).toInt ≤ 40)) = true := by decide +kernel
theorem s1_J : mJ ps_s1.1.2.2 0 ps_s1 := by
  refine ⟨rfl, by decide +kernel, fun q a b h => ?_, fun r n a b h => ?_, fun k hk => ?_⟩
  · unfold m_fr at h
    split at h <;> first | (cases h; exact s1_rf_ok (by decide +kernel)) | cases h
  · unfold m_ar at h
    split at h <;> first | (cases h; exact s1_ra_ok (by decide +kernel)) | cases h
  · have := List.all_eq_true.mp s1_pool k (List.mem_range.mpr hk)
    rw [Bool.and_eq_true] at this
    exact ⟨of_decide_eq_true this.1, of_decide_eq_true this.2⟩
theorem s1_MI : ∃ σ, MI σ (ps_a ps_s1 1134) (ps_a ps_s1 1135) (ps_a ps_s1 1136) (ps_a ps_s1 1137) (ps_a ps_s1 1138) (ps_a ps_s1 1139) (ps_a ps_s1 1157) (ps_a ps_s1 1176) (ps_i ps_s1 1131 21).toInt (ps_i ps_s1 1131 47).toInt (ps_i ps_s1 1131 54).toInt := ⟨_, MI_new (TH_0 (by decide +kernel) (by decide +kernel) (by decide +kernel) (by decide +kernel) (by decide +kernel)) (by decide +kernel) (by decide +kernel) (by decide +kernel) (fun i hi => by
  rcases (show i = 0 ∨ i = 1 ∨ i = 2 from by omega) with rfl | rfl | rfl <;> decide +kernel)⟩
/-- what holds between two calls of the law: t is both tapes' count -/
def LI (s : ps_S) (t : Int32) : Prop := xT s.1.2.2 ∧ mJ s.1.2.2 t s ∧ (ps_i s 1131 3).toInt = t.toInt ∧ (∃ σ, MI σ (ps_a s 1134) (ps_a s 1135) (ps_a s 1136) (ps_a s 1137) (ps_a s 1138) (ps_a s 1139) (ps_a s 1157) (ps_a s 1176) (ps_i s 1131 21).toInt (ps_i s 1131 47).toInt (ps_i s 1131 54).toInt) ∧ (∀ j : Nat, j < 96 → 0 ≤ (ps_a s 1169 j).toInt ∧ (ps_a s 1169 j).toInt ≤ 2) ∧ (∀ j : Nat, j < 12 → 0 ≤ (ps_a s 1175 j).toInt ∧ (ps_a s 1175 j).toInt ≤ 2)
theorem s1_LI : LI ps_s1 0 := ⟨s1_T, s1_J, by decide +kernel, s1_MI, s1_ra_ok (by decide +kernel), s1_ra_ok (by decide +kernel)⟩
