set_option maxRecDepth 100000
/-! what a call of the law keeps -/
/-- t the class's tape, u the reference's -/
def LX (s : ps_S) (t : Int32) (u : Int) : Prop := xT s.1.2.2 ∧ mJ s.1.2.2 t s ∧ (ps_i s 1131 3).toInt = u ∧ (∃ σ, MI σ (ps_a s 1134) (ps_a s 1135) (ps_a s 1136) (ps_a s 1137) (ps_a s 1138) (ps_a s 1139) (ps_a s 1157) (ps_a s 1176) (ps_i s 1131 21).toInt (ps_i s 1131 47).toInt (ps_i s 1131 54).toInt) ∧ (∀ j : Nat, j < 96 → 0 ≤ (ps_a s 1169 j).toInt ∧ (ps_a s 1169 j).toInt ≤ 2) ∧ (∀ j : Nat, j < 12 → 0 ≤ (ps_a s 1175 j).toInt ∧ (ps_a s 1175 j).toInt ≤ 2)
theorem LI_LX {s : ps_S} {t : Int32} (h : LI s t) : LX s t t.toInt := h
theorem LX_LI {s : ps_S} {t : Int32} {u : Int} (h : LX s t u) (e : u = t.toInt) : LI s t := by subst e; exact h
theorem LI_J {s : ps_S} {t : Int32} (h : LI s t) : xJ s t s := xJ_refl h.1 h.2.1.2.1
theorem LI_t {s : ps_S} {t : Int32} (h : LI s t) : 0 ≤ t.toInt ∧ t.toInt ≤ 1600 := by
  have := mf_3 h.2.1
  have e := h.2.2.1
  omega
theorem m_ar_ge {r n : Nat} {a b : Int} (h : m_ar r = some (n, a, b)) : 1131 ≤ r := by
  unfold m_ar at h
  split at h <;> first | omega | cases h
theorem LI_x {s s' : ps_S} {t t' : Int32} (h : LI s t) (J : xJ s t' s') : LX s' t' t.toInt := by
  obtain ⟨h1, ⟨g1, g2, g3, g4, g5⟩, h3, ⟨σ, h4⟩, h5, h6⟩ := h
  obtain ⟨j1, j2, j3⟩ := J
  have ei := (j3 1131 (Nat.le_refl _)).1
  have ea : ∀ r, 1131 ≤ r → ps_a s' r = ps_a s r := fun r hr => (j3 r hr).2.2.1
  refine ⟨j1, ⟨rfl, j2, fun q a b e => ?_, fun r n a b e i hi => ?_, fun k hk => ?_⟩, ?_, ⟨σ, ?_⟩, ?_, ?_⟩
  · rw [ei]; exact g3 q a b e
  · rw [ea r (m_ar_ge e)]; exact g4 r n a b e i hi
  · rw [ea 1134 (by decide)]; exact g5 k hk
  · rw [ei]; exact h3
  · rw [ea 1134 (by decide), ea 1135 (by decide), ea 1136 (by decide), ea 1137 (by decide), ea 1138 (by decide), ea 1139 (by decide), ea 1157 (by decide), ea 1176 (by decide), ei]; exact h4
  · rw [ea 1169 (by decide)]; exact h5
  · rw [ea 1175 (by decide)]; exact h6
theorem LX_mk {s s' : ps_S} {t : Int32} {u u' : Int} (h : LX s t u) (J : mJ s.1.2.2 t s') (h3 : (ps_i s' 1131 3).toInt = u') (hM : ∃ σ, MI σ (ps_a s' 1134) (ps_a s' 1135) (ps_a s' 1136) (ps_a s' 1137) (ps_a s' 1138) (ps_a s' 1139) (ps_a s' 1157) (ps_a s' 1176) (ps_i s' 1131 21).toInt (ps_i s' 1131 47).toInt (ps_i s' 1131 54).toInt) (hD : (∀ j : Nat, j < 96 → 0 ≤ (ps_a s' 1169 j).toInt ∧ (ps_a s' 1169 j).toInt ≤ 2)) (hF : (∀ j : Nat, j < 12 → 0 ≤ (ps_a s' 1175 j).toInt ∧ (ps_a s' 1175 j).toInt ≤ 2)) : LX s' t u' := ⟨by rw [J.1]; exact h.1, by rw [J.1]; exact J, h3, hM, hD, hF⟩
theorem LX_3 {s s' : ps_S} {t : Int32} {u : Int} {A F : List Nat} (h : LX s t u) (K : kp A F s s') (f : F.contains 3 = false) : (ps_i s' 1131 3).toInt = u := by rw [kp_i K 3 f]; exact h.2.2.1
theorem LX_D {s s' : ps_S} {t : Int32} {u : Int} {A F : List Nat} (h : LX s t u) (K : kp A F s s') (f : A.contains 1169 = false) : (∀ j : Nat, j < 96 → 0 ≤ (ps_a s' 1169 j).toInt ∧ (ps_a s' 1169 j).toInt ≤ 2) := by rw [(K.2 1169 f).1]; exact h.2.2.2.2.1
theorem LX_F {s s' : ps_S} {t : Int32} {u : Int} {A F : List Nat} (h : LX s t u) (K : kp A F s s') (f : A.contains 1175 = false) : (∀ j : Nat, j < 12 → 0 ≤ (ps_a s' 1175 j).toInt ∧ (ps_a s' 1175 j).toInt ≤ 2) := by rw [(K.2 1175 f).1]; exact h.2.2.2.2.2
theorem LX_M {s s' : ps_S} {t : Int32} {u : Int} {A F : List Nat} (h : LX s t u) (K : kp A F s s') (a1134 : A.contains 1134 = false) (a1135 : A.contains 1135 = false) (a1136 : A.contains 1136 = false) (a1137 : A.contains 1137 = false) (a1138 : A.contains 1138 = false) (a1139 : A.contains 1139 = false) (a1157 : A.contains 1157 = false) (a1176 : A.contains 1176 = false) (f21 : F.contains 21 = false) (f47 : F.contains 47 = false) (f54 : F.contains 54 = false) : ∃ σ, MI σ (ps_a s' 1134) (ps_a s' 1135) (ps_a s' 1136) (ps_a s' 1137) (ps_a s' 1138) (ps_a s' 1139) (ps_a s' 1157) (ps_a s' 1176) (ps_i s' 1131 21).toInt (ps_i s' 1131 47).toInt (ps_i s' 1131 54).toInt := by
  obtain ⟨σ, h4⟩ := h.2.2.2.1
  exact ⟨σ, MI_kp h4 K a1134 a1135 a1136 a1137 a1138 a1139 a1157 a1176 f21 f47 f54⟩
theorem ps_cls {w : pm_W} {s : ps_S} (h : ps_R w s) {r c : Nat} (hc : c < 13) (hi : ps_is r c = true) : pm_cls w (some (.ref r)) = some c := by
  obtain ⟨fs, h1, -, -⟩ := ps_get_ob h hc hi
  unfold pm_cls
  dsimp only
  rw [h1]
theorem l2_ckd {kd mm nest c q : Nat} {st : List Value} {w : pm_W} (hc : pm_cls w (some (.ref q)) = some c) (hh : (st.take (pm_na kd mm)).reverse.head? = some (.ref q)) (h : (Nat.ble (pm_na kd mm) st.length && Nat.ble (pm_cats (st.drop (pm_na kd mm))) 8 && Nat.ble (lg_sl (st.take (pm_na kd mm)).reverse).length (pm_ml (mm - 6)) && (cond (Nat.beq kd 3) (pm_st (mm - 6)) (!pm_st (mm - 6) && Nat.beq c (pm_own (mm - 6)) && (cond (Nat.beq kd 2) (pm_ini (mm - 6)) (Nat.beq nest 0 && !pm_ini (mm - 6)))))) = true) : pm_ckd kd mm nest st w = true := by
  unfold pm_ckd
  rw [hh, hc, h]
  rfl
theorem pm_H.sld {d y pc k n : Nat} {L : pm_L} {rest st : List Value} {w : pm_W} {xs : Nat → Int32} {i : Int32} {Q : Option Value → pm_W → Prop} (hc : pm_code y pc = some (.iaload, k)) (hst : st = .int i :: .ref pm_SC :: rest) (hi : pm_in i n = true) (h : pm_H (some (n, xs)) d y (pc + 1) L (.int (xs (Int32.toNatClampNeg i)) :: rest) w Q) : pm_H (some (n, xs)) d y pc L st w Q := by
  refine pm_H.go hc rfl rfl (w' := w) ?_ h
  subst hst
  unfold pm_op
  dsimp only
  rw [Nat.beq_refl, hi]
  rfl
theorem l2_call {X : Option (Nat × (Nat → Int32))} {y pc k kd j a mm pl nest c q : Nat} {Lc : pm_L} {st : List Value} {w : pm_W} {s : ps_S} {i : Instr} {P : Option Value → ps_S → Prop} {Q : Option Value → pm_W → Prop} (hc : pm_code y pc = some (i, k)) (hR : pm_isR i = false) (hcal : pm_cal i = (kd, j)) (hkd : kd ≠ 0) (hl : pm_l4 (pm_ML (pm_own y)) j = some (a, mm, pl, nest)) (h6 : 5 < mm) (hw : ps_R w s) (h13 : c < 13) (hi : ps_is q c = true) (hh : (st.take (pm_na kd mm)).reverse.head? = some (.ref q)) (hb : (Nat.ble (pm_na kd mm) st.length && Nat.ble (pm_cats (st.drop (pm_na kd mm))) 8 && Nat.ble (lg_sl (st.take (pm_na kd mm)).reverse).length (pm_ml (mm - 6)) && (cond (Nat.beq kd 3) (pm_st (mm - 6)) (!pm_st (mm - 6) && Nat.beq c (pm_own (mm - 6)) && (cond (Nat.beq kd 2) (pm_ini (mm - 6)) (Nat.beq nest 0 && !pm_ini (mm - 6)))))) = true)
    (hC : ps_Cl 299 (mm - 6) (st.take (pm_na kd mm)).reverse s P) (K : ∀ (o : Option Value) (w' : pm_W) (s' : ps_S), ps_R w' s' → P o s' → pm_H X 300 y (pc + 3) Lc (o.toList ++ st.drop (pm_na kd mm)) w' Q) : pm_H X 300 y pc Lc st w Q := by
  refine pm_H.call (d' := 299) (Q1 := fun o w' => ∃ s', ps_R w' s' ∧ P o s') hc hR hcal hkd hl h6 rfl (l2_ckd (ps_cls hw h13 hi) hh hb) ?_ (fun o w' hh => ?_)
  · obtain ⟨o, w', h1, h2⟩ := hC w _ hw (ps_le_refl _)
    exact ⟨o, w', h1.lift, h2⟩
  · obtain ⟨s', h1, h2⟩ := hh
    exact K o w' s' h1 h2
theorem l2_int {f : Int32 → ps_S → Prop} {o : Option Value} {s : ps_S} (h : ps_rI f o s) : ∃ v, o = some (.int v) ∧ f v s := by
  unfold ps_rI at h
  split at h
  · exact ⟨_, rfl, h⟩
  · exact h.elim
theorem l2_lng {f : Int64 → ps_S → Prop} {o : Option Value} {s : ps_S} (h : ps_rJ f o s) : ∃ v, o = some (.long v) ∧ f v s := by
  unfold ps_rJ at h
  split at h
  · exact ⟨_, rfl, h⟩
  · exact h.elim
