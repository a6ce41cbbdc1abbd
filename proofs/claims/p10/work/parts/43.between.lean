set_option maxRecDepth 100000
/-! between two calls: both tapes hold the same bytes; the class's words and arities stand -/
theorem ps_det_a {w : pm_W} {s s' : ps_S} (h : ps_R w s) (h' : ps_R w s') {r n t i : Nat} (hr : r < 1179) (hk : ps_K r = (0, t, n)) (ht : t < 3) (hi : i < n) : ps_a s r i = ps_a s' r i := by
  obtain ⟨k1, e1⟩ := h.2 r hr
  obtain ⟨-, e2⟩ := h'.2 r hr
  rw [hk] at k1
  generalize w.1 r = e at k1 e1 e2
  match e, k1, e1, e2 with
  | .inl (t', n', .inl f), k1, e1, e2 =>
    have hn : n' = n := congrArg (fun z => z.2.2) k1
    subst hn
    exact (e1.2 i hi).symm.trans (e2.2 i hi)
  | .inl (t', n', .inr (.inl f)), k1, e1, e2 =>
    have hn : t' = t := congrArg (fun z => z.2.1) k1
    have := e1.1
    omega
  | .inl (t', n', .inr (.inr f)), k1, e1, e2 =>
    have hn : t' = t := congrArg (fun z => z.2.1) k1
    have := e1.1
    omega
  | .inr (c, fs), k1, e1, e2 => cases k1
theorem ps_det_b {w : pm_W} {s s' : ps_S} (h : ps_R w s) (h' : ps_R w s') {r n i : Nat} (hr : r < 1179) (hk : ps_K r = (0, 3, n)) (hi : i < n) : ps_b s r i = ps_b s' r i := by
  obtain ⟨k1, e1⟩ := h.2 r hr
  obtain ⟨-, e2⟩ := h'.2 r hr
  rw [hk] at k1
  generalize w.1 r = e at k1 e1 e2
  match e, k1, e1, e2 with
  | .inl (t', n', .inl f), k1, e1, e2 =>
    have hn : t' = 3 := congrArg (fun z => z.2.1) k1
    have := e1.1
    omega
  | .inl (t', n', .inr (.inl f)), k1, e1, e2 =>
    have hn : n' = n := congrArg (fun z => z.2.2) k1
    subst hn
    exact (e1.2 i hi).symm.trans (e2.2 i hi)
  | .inl (t', n', .inr (.inr f)), k1, e1, e2 =>
    have hn : t' = 3 := congrArg (fun z => z.2.1) k1
    have := e1.1
    omega
  | .inr (c, fs), k1, e1, e2 => cases k1
theorem ps_det_f {w : pm_W} {s s' : ps_S} (h : ps_R w s) (h' : ps_R w s') {r c n q : Nat} (hr : r < 1179) (hk : ps_K r = (1, c, n)) (hq : q < (pm_Ts c).length) : ps_fv s c r q = ps_fv s' c r q := by
  obtain ⟨k1, e1⟩ := h.2 r hr
  obtain ⟨-, e2⟩ := h'.2 r hr
  rw [hk] at k1
  generalize w.1 r = e at k1 e1 e2
  match e, k1, e1, e2 with
  | .inl (t', n', f), k1, e1, e2 => cases k1
  | .inr (c', fs), k1, e1, e2 =>
    have hc : c' = c := congrArg (fun z => z.2.1) k1
    subst hc
    exact Option.some.inj ((e1.2 q hq).symm.trans (e2.2 q hq))
/-- the class's own: words that stand for themselves, arities that stand, the theories in turn -/
def LB (s : ps_S) : Prop := (∀ (k : Nat) (w : List Nat), tx_keys[k]? = some w → ps_b s 904 k = tx_x w) ∧ cv_base s 2 ∧ cv_base s 26 ∧ (ps_r s 0 2 = 2 ∨ ps_r s 0 2 = 26) ∧ (ps_r s 0 3 = 2 ∨ ps_r s 0 3 = 26)
theorem LB_mk {s s' : ps_S} (h : LB s) (h9 : ∀ k, k < 28 → ps_b s' 904 k = ps_b s 904 k) (h6 : ∀ i, i < 10 → ps_a s' 6 i = ps_a s 6 i ∧ ps_a s' 30 i = ps_a s 30 i) (r2 : ps_r s' 0 2 = 2 ∨ ps_r s' 0 2 = 26) (r3 : ps_r s' 0 3 = 2 ∨ ps_r s' 0 3 = 26) : LB s' := by
  obtain ⟨a1, a2, a3, -, -⟩ := h
  refine ⟨fun k w hk => ?_, ?_, ?_, r2, r3⟩
  · have hl : k < 28 := (List.getElem?_eq_some_iff.mp hk).1
    rw [h9 k hl]
    exact a1 k w hk
  · unfold cv_base at *
    rw [(h6 0 (by decide)).1, (h6 1 (by decide)).1, (h6 2 (by decide)).1, (h6 3 (by decide)).1, (h6 4 (by decide)).1, (h6 5 (by decide)).1, (h6 6 (by decide)).1]
    exact a2
  · unfold cv_base at *
    rw [(h6 0 (by decide)).2, (h6 1 (by decide)).2, (h6 2 (by decide)).2, (h6 3 (by decide)).2, (h6 4 (by decide)).2, (h6 5 (by decide)).2, (h6 6 (by decide)).2]
    exact a3
theorem LB_det {w : pm_W} {s s' : ps_S} (h : ps_R w s) (h' : ps_R w s') (H : LB s) : LB s' := by
  have f2 : ps_r s 0 2 = ps_r s' 0 2 := by
    have := ps_det_f h h' (r := 0) (c := 11) (q := 2) (by decide) rfl (by decide)
    exact Value.ref.inj this
  have f3 : ps_r s 0 3 = ps_r s' 0 3 := by
    have := ps_det_f h h' (r := 0) (c := 11) (q := 3) (by decide) rfl (by decide)
    exact Value.ref.inj this
  exact LB_mk H (fun k hk => (ps_det_b h h' (r := 904) (by decide) rfl hk).symm) (fun i hi => ⟨(ps_det_a h h' (r := 6) (t := 0) (n := 40) (by decide) rfl (by decide) (by omega)).symm, (ps_det_a h h' (r := 30) (t := 0) (n := 40) (by decide) rfl (by decide) (by omega)).symm⟩) (by rw [← f2]; exact H.2.2.2.1) (by rw [← f3]; exact H.2.2.2.2)
/-- what holds between two calls besides: t is the class's count -/
def LF (s : ps_S) (t : Int32) : Prop := (∀ k : Nat, (k : Int) < t.toInt → ps_a s 1 k = ps_a s 1132 k) ∧ LB s
theorem LF_det {w : pm_W} {s s' : ps_S} {t : Int32} (ht : t.toInt ≤ 1600) (h : ps_R w s) (h' : ps_R w s') (H : LF s t) : LF s' t := by
  refine ⟨fun k hk => ?_, LB_det h h' H.2⟩
  rw [← ps_det_a h h' (r := 1) (t := 1) (n := 1600) (i := k) (by decide) rfl (by decide) (by omega), ← ps_det_a h h' (r := 1132) (t := 1) (n := 1620) (i := k) (by decide) rfl (by decide) (by omega)]
  exact H.1 k hk
theorem LB_y {m s s' : ps_S} {t' : Int32} (H : LB s) (J : yJ s t' s') : LB s' := by
  obtain ⟨-, -, p2, p3, p4, p5⟩ := J
  exact LB_mk H (fun k _ => by rw [p2]) p3 p4 p5
theorem LF_x {s s' : ps_S} {t t' : Int32} (H : LF s t) (J : yJ s t' s') (ht : t'.toInt ≤ t.toInt) : LF s' t' := by
  refine ⟨fun k hk => ?_, LB_y (m := s) H.2 J⟩
  rw [J.2.1, (J.1.2.2 1132 (by decide)).2.2.1]
  exact H.1 k (by omega)
theorem LF_J {s : ps_S} {t : Int32} (hI : LI s t) (hF : LF s t) : yJ s t s := ⟨LI_J hI, rfl, rfl, fun _ _ => ⟨rfl, rfl⟩, hF.2.2.2.2.1, hF.2.2.2.2.2⟩
theorem LB_m {s s' : ps_S} {t : Int32} {A F : List Nat} (H : LB s) (J : mJ s.1.2.2 t s') (K : kp A F s s') (a6 : A.contains 6 = false) (a30 : A.contains 30 = false) (a904 : A.contains 904 = false) : LB s' := by
  have hr : ps_r s' = ps_r s := J.1
  exact LB_mk H (fun k _ => by rw [(K.2 904 a904).2]) (fun i _ => ⟨by rw [(K.2 6 a6).1], by rw [(K.2 30 a30).1]⟩) (by rw [hr]; exact H.2.2.2.1) (by rw [hr]; exact H.2.2.2.2)
theorem LF_m {s s' : ps_S} {t : Int32} {A F : List Nat} (H : LF s t) (J : mJ s.1.2.2 t s') (K : kp A F s s') (a1 : A.contains 1 = false) (a1132 : A.contains 1132 = false) (a6 : A.contains 6 = false) (a30 : A.contains 30 = false) (a904 : A.contains 904 = false) : LF s' t := by
  refine ⟨fun k hk => ?_, LB_m H.2 J K a6 a30 a904⟩
  rw [(K.2 1 a1).1, (K.2 1132 a1132).1]
  exact H.1 k hk
theorem s1_keys : (List.range 28).all (fun k => decide (ps_b ps_s1 904 k = tx_x (tx_keys.getD k []))) = true := by decide +kernel
theorem s1_LF : LF ps_s1 0 := by
  refine ⟨fun k hk => by rw [Int32.toInt_zero] at hk; omega, fun k w hk => ?_, by unfold cv_base; decide +kernel, by unfold cv_base; decide +kernel, Or.inl (by decide +kernel), Or.inr (by decide +kernel)⟩
  have hl : k < 28 := (List.getElem?_eq_some_iff.mp hk).1
  have := of_decide_eq_true (List.all_eq_true.mp s1_keys k (List.mem_range.mpr hl))
  rw [this, List.getD_eq_getElem?_getD, hk]
  rfl
/-- a call of the law, with what holds should it end -/
theorem l2_call2 {X : Option (Nat × (Nat → Int32))} {y pc k kd j a mm pl nest c q : Nat} {Lc : pm_L} {st : List Value} {w : pm_W} {s : ps_S} {i : Instr} {P P2 : Option Value → ps_S → Prop} {Q : Option Value → pm_W → Prop} (hc : pm_code y pc = some (i, k)) (hR : pm_isR i = false) (hcal : pm_cal i = (kd, j)) (hkd : kd ≠ 0) (hl : pm_l4 (pm_ML (pm_own y)) j = some (a, mm, pl, nest)) (h6 : 5 < mm) (hw : ps_R w s) (h13 : c < 13) (hi : ps_is q c = true) (hh : (st.take (pm_na kd mm)).reverse.head? = some (.ref q)) (hb : (Nat.ble (pm_na kd mm) st.length && Nat.ble (pm_cats (st.drop (pm_na kd mm))) 8 && Nat.ble (lg_sl (st.take (pm_na kd mm)).reverse).length (pm_ml (mm - 6)) && (cond (Nat.beq kd 3) (pm_st (mm - 6)) (!pm_st (mm - 6) && Nat.beq c (pm_own (mm - 6)) && (cond (Nat.beq kd 2) (pm_ini (mm - 6)) (Nat.beq nest 0 && !pm_ini (mm - 6)))))) = true)
    (hC : ps_Cl 299 (mm - 6) (st.take (pm_na kd mm)).reverse s P) (hD : ∀ n, pl_Cl n (mm - 6) (st.take (pm_na kd mm)).reverse s P2) (K : ∀ (o : Option Value) (w' : pm_W) (s' s2 : ps_S), ps_R w' s' → P o s' → ps_R w' s2 → P2 o s2 → pm_H X 300 y (pc + 3) Lc (o.toList ++ st.drop (pm_na kd mm)) w' Q) : pm_H X 300 y pc Lc st w Q := by
  refine pm_H.call (d' := 299) (Q1 := fun o w' => (∃ s', ps_R w' s' ∧ P o s') ∧ ∃ s2, ps_R w' s2 ∧ P2 o s2) hc hR hcal hkd hl h6 rfl (l2_ckd (ps_cls hw h13 hi) hh hb) ?_ (fun o w' hh => ?_)
  · obtain ⟨o, w', ⟨n, h1⟩, h2⟩ := hC w _ hw (ps_le_refl _)
    exact ⟨o, w', pm_T.lift ⟨n, h1⟩, h2, hD (n + 1) n 299 w _ o w' (Nat.lt_succ_self n) hw (ps_le_refl _) h1⟩
  · obtain ⟨⟨s', h1, h2⟩, s2, h3, h4⟩ := hh
    exact K o w' s' s2 h1 h2 h3 h4
/-- theory()'s answer -/
def AW (T : Nat → Nat) (N : Nat) (v : Int32) : Prop := (∃ (h : tx_H) (p : Nat), gt_go (tx_ln T N) (0, (([], []), []), 0, 0) (3, h, p, 0) ∧ v.toInt = h.2.length) ∨ ∃ (h : tx_H) (pl k : Nat), gt_go (tx_ln T N) (0, (([], []), []), 0, 0) (4, h, pl, k) ∧ v.toInt = -1
theorem AW_eq {T : Nat → Nat} {N : Nat} {v v' : Int32} (a : AW T N v) (b : AW T N v') : v = v' := by
  apply Int32.toInt_inj.mp
  rcases a with ⟨h, p, g, e⟩ | ⟨h, p, k, g, e⟩ <;> rcases b with ⟨h2, p2, g2, e2⟩ | ⟨h2, p2, k2, g2, e2⟩
  · have z := gt_det g g2 rfl rfl
    cases z
    rw [e, e2]
  · have z := gt_det g g2 rfl rfl
    cases z
  · have z := gt_det g g2 rfl rfl
    cases z
  · rw [e, e2]
def TT (s : ps_S) (k : Nat) : Nat := (ps_a s 1 k &&& 255).toInt.toNat
theorem AW_x {s : ps_S} {t : Int32} (hI : LI s t) (hF : LF s t) (n : Nat) : pl_Cl n 151 [.ref 0] s (ps_rI (fun v _ => AW (TT s) t.toInt.toNat v)) := by
  have ht := LI_t hI
  have e : ps_i s 0 1 = t := hI.2.1.2.1
  rcases hF.2.2.2.2.2 with h3 | h3
  · exact fs_151 (Or.inl rfl) h3 hF.2.2.1 (by rw [e]; omega) (by omega) (fun k _ => bytes_T) hF.2.1 (fun v _ h p g hv => Or.inl ⟨h, p, g, hv⟩) (fun _ h p k g _ _ => Or.inr ⟨h, p, k, g, by decide⟩)
  · exact fs_151 (Or.inr rfl) h3 hF.2.2.2.1 (by rw [e]; omega) (by omega) (fun k _ => bytes_T) hF.2.1 (fun v _ h p g hv => Or.inl ⟨h, p, g, hv⟩) (fun _ h p k g _ _ => Or.inr ⟨h, p, k, g, by decide⟩)
theorem AW_m {s s1 : ps_S} {t t1 : Int32} (hI : LI s t) (hF : LF s t) (J : yJ s t1 s1) (hX : LX s1 t1 t.toInt) (n : Nat) : pl_Cl n 201 [.ref 1131] s1 (ps_rI (fun v _ => AW (TT s) t.toInt.toNat v)) := by
  have ht := LI_t hI
  have h21 := hX.2.1.2.2.1 21 0 1 rfl
  have h3 := hX.2.2.1
  refine fm_201 (b := (ps_i s1 1131 21).toInt.toNat) (T := TT s) (N := t.toInt.toNat) (by omega) (by omega) (by omega) (by omega) (fun k hk => ?_) (fun v _ z => ?_) (fun v _ z => ?_)
  · rw [(J.1.2.2 1132 (by decide)).2.2.1, ← hF.1 k (by omega)]
    exact bytes_T
  · obtain ⟨h, p, g, e, -⟩ := z
    exact Or.inl ⟨h, p, g, e⟩
  · obtain ⟨h, p, k, g, e, -⟩ := z
    exact Or.inr ⟨h, p, k, g, e⟩
/-- feed: between the two sides -/
def LM (s : ps_S) (t : Int32) (x1 x2 x3 x4 x5 : Int32) : Prop := (∀ k : Nat, (k : Int) < t.toInt → ps_a s 1 k = ps_a s 1132 k) ∧ LB s ∧ (t.toInt ≤ 1580 → ∀ j, j < 20 → ps_a s 1 (t.toInt.toNat + j) = fw x1 x2 x3 x4 x5 j)
theorem LM_det {w : pm_W} {s s' : ps_S} {t x1 x2 x3 x4 x5 : Int32} (h0 : 0 ≤ t.toInt) (ht : t.toInt ≤ 1600) (h : ps_R w s) (h' : ps_R w s') (H : LM s t x1 x2 x3 x4 x5) : LM s' t x1 x2 x3 x4 x5 := by
  obtain ⟨g1, g2⟩ := LF_det ht h h' (t := t) ⟨H.1, H.2.1⟩
  refine ⟨g1, g2, fun ht2 j hj => ?_⟩
  rw [← ps_det_a h h' (r := 1) (t := 1) (n := 1600) (i := t.toInt.toNat + j) (by decide) rfl (by decide) (by omega)]
  exact H.2.2 ht2 j hj
theorem LM_x {s : ps_S} {t x1 x2 x3 x4 x5 : Int32} (hI : LI s t) (hF : LF s t) (n : Nat) : pl_Cl n 149 [.ref 0, .int x1, .int x2, .int x3, .int x4, .int x5] s (ps_rI (fun _ s1 => LM s1 t x1 x2 x3 x4 x5)) := by
  have ht := LI_t hI
  have e : ps_i s 0 1 = t := hI.2.1.2.1
  refine fs_149 (t := t.toInt.toNat) (by omega) (by rw [e]; omega) (fun _ v s' g => ?_) (fun h => ⟨hF.1, hF.2, fun z => by omega⟩)
  obtain ⟨g1, g2, g3, g4, g5⟩ := g
  have K : ∀ q, q ≠ 0 → q ≠ 1 → ps_a s' q = ps_a s q ∧ ps_b s' q = ps_b s q := fun q h0 h1 => (g2 q (fun z => z.elim h0 h1)).2.2.2
  refine ⟨fun k hk => ?_, LB_mk hF.2 (fun k _ => by rw [(K 904 (by decide) (by decide)).2]) (fun i _ => ⟨by rw [(K 6 (by decide) (by decide)).1], by rw [(K 30 (by decide) (by decide)).1]⟩) (by rw [g3]; exact hF.2.2.2.2.1) (by rw [g3]; exact hF.2.2.2.2.2), fun _ j hj => g5 j hj⟩
  rw [g4 k (by omega), (K 1132 (by decide) (by decide)).1]
  exact hF.1 k hk
theorem LM_m {s1 : ps_S} {t x1 x2 x3 x4 x5 : Int32} (h0 : 0 ≤ t.toInt) (ht : t.toInt ≤ 1600) (h3 : (ps_i s1 1131 3).toInt = t.toInt) (H : LM s1 t x1 x2 x3 x4 x5) (n : Nat) : pl_Cl n 308 [.ref 1131, .int x1, .int x2, .int x3, .int x4, .int x5] s1 (ps_rI (fun _ s2 => ∀ t1 : Int32, ((t1 = t ∧ 1580 < t.toInt) ∨ (t1.toInt = t.toInt + 20 ∧ t.toInt ≤ 1580)) → LF s2 t1)) := by
  refine fm_308 (t := t.toInt.toNat) (by omega) (by omega) (fun h4 v s' g => ?_) (fun h4 => ?_)
  · intro t1 ht1
    obtain ⟨g1, g2, g3, g4⟩ := g
    refine ⟨fun k hk => ?_, LB_mk H.2.1 (fun k _ => by rw [kq_b g2 904 (by decide)]) (fun i _ => ⟨by rw [kq_a g2 6 (by decide)], by rw [kq_a g2 30 (by decide)]⟩) (by rw [g2.2]; exact H.2.1.2.2.2.1) (by rw [g2.2]; exact H.2.1.2.2.2.2)⟩
    rw [kq_a g2 1 (by decide)]
    by_cases hk2 : (k : Int) < t.toInt
    · rw [g3 k (by omega)]
      exact H.1 k hk2
    · have e : k = t.toInt.toNat + (k - t.toInt.toNat) := by omega
      rw [e, g4 _ (by omega), H.2.2 (by omega) _ (by omega)]
  · intro t1 ht1
    refine ⟨fun k hk => H.1 k ?_, H.2.1⟩
    rcases ht1 with ⟨e, -⟩ | ⟨-, e⟩
    · rw [← e]; exact hk
    · omega
theorem ys_150 {m s : ps_S} {t : Int32} {d : Nat} {x1 : Int32} {f : Int32 → ps_S → Prop} (J : yJ m t s) (k : ∀ (v : Int32) (s' : ps_S) (t' : Int32), yJ m t' s' → (v.toInt = -1 ∧ t' = t ∧ (x1.toInt < 0 ∨ t.toInt < x1.toInt)) ∨ (v = x1 ∧ t' = x1 ∧ 0 ≤ x1.toInt ∧ x1.toInt ≤ t.toInt) → f v s') : ps_Cl d 150 [.ref 0, .int x1] s (ps_rI f) := by
  have e : ps_i s 0 1 = t := J.1.2.1
  refine pg_150_0 (And.intro (fun h1 => ?_) (fun h1 => And.intro (fun h2 => ?_) (fun h2 => ?_)))
  · exact k (-1) s t J (Or.inl ⟨by decide, rfl, Or.inl (xlt h1)⟩)
  · rw [e] at h2
    exact k x1 _ x1 (yw_tape J) (Or.inr ⟨rfl, rfl, xle h1, xle h2⟩)
  · rw [e] at h2
    exact k (-1) s t J (Or.inl ⟨by decide, rfl, Or.inr (xlt h2)⟩)
