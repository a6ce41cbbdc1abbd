/-! PURE STATES: what the cells behind the two constructors hold, by cell and place; kinds, lengths and final references stand fixed -/
abbrev ps_S : Type := ((Nat → Nat → Int32) × (Nat → Nat → Int64) × (Nat → Nat → Nat)) × ((Nat → Nat → Int32) × (Nat → Nat → Int64))
/-- fields: ints, longs, references that aren't final; elements: ints, longs -/
def ps_i (s : ps_S) (r q : Nat) : Int32 := s.1.1 r q
def ps_j (s : ps_S) (r q : Nat) : Int64 := s.1.2.1 r q
def ps_r (s : ps_S) (r q : Nat) : Nat := s.1.2.2 r q
def ps_a (s : ps_S) (r i : Nat) : Int32 := s.2.1 r i
def ps_b (s : ps_S) (r i : Nat) : Int64 := s.2.2 r i
def ps_u {α : Type} (f : Nat → Nat → α) (r q : Nat) (v : α) (r' q' : Nat) : α := if r' = r ∧ q' = q then v else f r' q'
def ps_ui (s : ps_S) (r q : Nat) (v : Int32) : ps_S := ((ps_u s.1.1 r q v, s.1.2), s.2)
def ps_uj (s : ps_S) (r q : Nat) (v : Int64) : ps_S := ((s.1.1, (ps_u s.1.2.1 r q v, s.1.2.2)), s.2)
def ps_ur (s : ps_S) (r q : Nat) (v : Nat) : ps_S := ((s.1.1, (s.1.2.1, ps_u s.1.2.2 r q v)), s.2)
def ps_ua (s : ps_S) (r i : Nat) (v : Int32) : ps_S := (s.1, (ps_u s.2.1 r i v, s.2.2))
def ps_ub (s : ps_S) (r i : Nat) (v : Int64) : ps_S := (s.1, (s.2.1, ps_u s.2.2 r i v))
theorem ps_i_ui (s : ps_S) (r q : Nat) (v : Int32) (r' q' : Nat) : ps_i (ps_ui s r q v) r' q' = if r' = r ∧ q' = q then v else ps_i s r' q' := rfl
theorem ps_i_uj (s : ps_S) (r q : Nat) (v : Int64) : ps_i (ps_uj s r q v) = ps_i s := rfl
theorem ps_i_ur (s : ps_S) (r q v : Nat) : ps_i (ps_ur s r q v) = ps_i s := rfl
theorem ps_i_ua (s : ps_S) (r q : Nat) (v : Int32) : ps_i (ps_ua s r q v) = ps_i s := rfl
theorem ps_i_ub (s : ps_S) (r q : Nat) (v : Int64) : ps_i (ps_ub s r q v) = ps_i s := rfl
theorem ps_j_ui (s : ps_S) (r q : Nat) (v : Int32) : ps_j (ps_ui s r q v) = ps_j s := rfl
theorem ps_j_uj (s : ps_S) (r q : Nat) (v : Int64) (r' q' : Nat) : ps_j (ps_uj s r q v) r' q' = if r' = r ∧ q' = q then v else ps_j s r' q' := rfl
theorem ps_j_ur (s : ps_S) (r q v : Nat) : ps_j (ps_ur s r q v) = ps_j s := rfl
theorem ps_j_ua (s : ps_S) (r q : Nat) (v : Int32) : ps_j (ps_ua s r q v) = ps_j s := rfl
theorem ps_j_ub (s : ps_S) (r q : Nat) (v : Int64) : ps_j (ps_ub s r q v) = ps_j s := rfl
theorem ps_r_ui (s : ps_S) (r q : Nat) (v : Int32) : ps_r (ps_ui s r q v) = ps_r s := rfl
theorem ps_r_uj (s : ps_S) (r q : Nat) (v : Int64) : ps_r (ps_uj s r q v) = ps_r s := rfl
theorem ps_r_ur (s : ps_S) (r q v : Nat) (r' q' : Nat) : ps_r (ps_ur s r q v) r' q' = if r' = r ∧ q' = q then v else ps_r s r' q' := rfl
theorem ps_r_ua (s : ps_S) (r q : Nat) (v : Int32) : ps_r (ps_ua s r q v) = ps_r s := rfl
theorem ps_r_ub (s : ps_S) (r q : Nat) (v : Int64) : ps_r (ps_ub s r q v) = ps_r s := rfl
theorem ps_a_ui (s : ps_S) (r q : Nat) (v : Int32) : ps_a (ps_ui s r q v) = ps_a s := rfl
theorem ps_a_uj (s : ps_S) (r q : Nat) (v : Int64) : ps_a (ps_uj s r q v) = ps_a s := rfl
theorem ps_a_ur (s : ps_S) (r q v : Nat) : ps_a (ps_ur s r q v) = ps_a s := rfl
theorem ps_a_ua (s : ps_S) (r q : Nat) (v : Int32) (r' q' : Nat) : ps_a (ps_ua s r q v) r' q' = if r' = r ∧ q' = q then v else ps_a s r' q' := rfl
theorem ps_a_ub (s : ps_S) (r q : Nat) (v : Int64) : ps_a (ps_ub s r q v) = ps_a s := rfl
theorem ps_b_ui (s : ps_S) (r q : Nat) (v : Int32) : ps_b (ps_ui s r q v) = ps_b s := rfl
theorem ps_b_uj (s : ps_S) (r q : Nat) (v : Int64) : ps_b (ps_uj s r q v) = ps_b s := rfl
theorem ps_b_ur (s : ps_S) (r q v : Nat) : ps_b (ps_ur s r q v) = ps_b s := rfl
theorem ps_b_ua (s : ps_S) (r q : Nat) (v : Int32) : ps_b (ps_ua s r q v) = ps_b s := rfl
theorem ps_b_ub (s : ps_S) (r q : Nat) (v : Int64) (r' q' : Nat) : ps_b (ps_ub s r q v) r' q' = if r' = r ∧ q' = q then v else ps_b s r' q' := rfl
/-- what stands fixed: kinds, final references, elements that are references -/
def ps_K (r : Nat) : Nat × Nat × Nat := pm_kind (pm_wx r)
def ps_is (r c : Nat) : Bool := match ps_K r with
  | (1, c', _) => Nat.beq c c'
  | _ => false
def ps_ar (r t : Nat) : Bool := match ps_K r with
  | (0, t', _) => Nat.beq t t'
  | _ => false
def ps_ln (r : Nat) : Nat := (ps_K r).2.2
def ps_c0 (r q : Nat) : Nat := match pm_wx r with
  | .inr (_, fs) => (match fs[q]? with
    | some (.ref x) => x
    | _ => 0)
  | _ => 0
def ps_e0 (r i : Nat) : Nat := match pm_wx r with
  | .inl (_, _, .inr (.inr l)) => (pm_rd none l i).getD 0
  | _ => 0
def ps_fin (c q : Nat) : Bool := ((pm_Fs c).getD q ("", "", "", false)).2.2.2
def ps_fv (s : ps_S) (c r q : Nat) : Value := match (pm_Ts c).getD q .int with
  | .long => .long (ps_j s r q)
  | .object _ => .ref (cond (ps_fin c q) (ps_c0 r q) (ps_r s r q))
  | .array _ => .ref (cond (ps_fin c q) (ps_c0 r q) (ps_r s r q))
  | _ => .int (ps_i s r q)
def ps_Ok (r : Nat) (e : pm_E) (s : ps_S) : Prop := match e with
  | .inl (t, n, .inl f) => t < 3 ∧ ∀ i, i < n → pm_rd 0 f i = ps_a s r i
  | .inl (t, n, .inr (.inl f)) => t = 3 ∧ ∀ i, i < n → pm_rd 0 f i = ps_b s r i
  | .inl (t, n, .inr (.inr f)) => (3 < t ∧ t < 8) ∧ ∀ i, i < n → pm_rd none f i = some (ps_e0 r i)
  | .inr (c, fs) => fs.length = (pm_Ts c).length ∧ ∀ q, q < (pm_Ts c).length → fs[q]? = some (ps_fv s c r q)
/-- the world w holds the state s -/
def ps_R (w : pm_W) (s : ps_S) : Prop := w.2 = (1179, 65954) ∧ ∀ r, r < 1179 → pm_kind (w.1 r) = ps_K r ∧ ps_Ok r (w.1 r) s
theorem ps_K_out {r : Nat} (h : 1179 ≤ r) : ps_K r = (1, 99, 0) := by
  unfold ps_K pm_wx
  rw [pm_blt_f h]
  rfl
theorem ps_is_lt {r c : Nat} (hc : c < 13) (h : ps_is r c = true) : r < 1179 ∧ ps_K r = (1, c, 0) := by
  have hr : r < 1179 := by
    refine Nat.lt_of_not_le (fun q => ?_)
    unfold ps_is at h
    rw [ps_K_out q] at h
    have := Nat.eq_of_beq_eq_true h
    omega
  refine ⟨hr, ?_⟩
  unfold ps_is at h
  unfold ps_K at *
  cases e : pm_wx r with
  | inl a =>
    obtain ⟨t, n, f⟩ := a
    rw [e] at h
    cases h
  | inr a =>
    obtain ⟨c', fs⟩ := a
    rw [e] at h
    have := Nat.eq_of_beq_eq_true h
    subst this
    rfl
theorem ps_ar_lt {r t : Nat} (h : ps_ar r t = true) : r < 1179 ∧ ps_K r = (0, t, ps_ln r) := by
  have hr : r < 1179 := by
    refine Nat.lt_of_not_le (fun q => ?_)
    unfold ps_ar at h
    rw [ps_K_out q] at h
    cases h
  refine ⟨hr, ?_⟩
  unfold ps_ar at h
  unfold ps_ln
  unfold ps_K at *
  cases e : pm_wx r with
  | inl a =>
    obtain ⟨t', n, f⟩ := a
    rw [e] at h
    have := Nat.eq_of_beq_eq_true h
    subst this
    rfl
  | inr a =>
    obtain ⟨c', fs⟩ := a
    rw [e] at h
    cases h
theorem ps_get_lt {w : pm_W} {s : ps_S} (h : ps_R w s) {r : Nat} (hr : r < 1179) : pm_get w r = some (w.1 r) := by
  unfold pm_get
  rw [h.1, show Nat.blt r 1179 = true from Nat.ble_eq_true_of_le hr]
  rfl
theorem ps_get_ob {w : pm_W} {s : ps_S} (h : ps_R w s) {r c : Nat} (hc : c < 13) (hi : ps_is r c = true) : ∃ fs, pm_get w r = some (.inr (c, fs)) ∧ fs.length = (pm_Ts c).length ∧ ∀ q, q < (pm_Ts c).length → fs[q]? = some (ps_fv s c r q) := by
  obtain ⟨hr, hk⟩ := ps_is_lt hc hi
  have k := h.2 r hr
  rw [ps_get_lt h hr]
  rw [hk] at k
  cases e : w.1 r with
  | inl a =>
    obtain ⟨t, n, f⟩ := a
    rw [e] at k
    cases k.1
  | inr a =>
    obtain ⟨c', fs⟩ := a
    rw [e] at k
    cases k.1
    exact ⟨fs, rfl, k.2⟩
theorem ps_get_ai {w : pm_W} {s : ps_S} (h : ps_R w s) {r t : Nat} (ht : t < 3) (hi : ps_ar r t = true) : ∃ f, pm_get w r = some (.inl (t, ps_ln r, .inl f)) ∧ ∀ i, i < ps_ln r → pm_rd 0 f i = ps_a s r i := by
  obtain ⟨hr, hk⟩ := ps_ar_lt hi
  have k := h.2 r hr
  rw [ps_get_lt h hr]
  rw [hk] at k
  cases e : w.1 r with
  | inr a =>
    obtain ⟨c', fs⟩ := a
    rw [e] at k
    cases k.1
  | inl a =>
    obtain ⟨t', n, f⟩ := a
    rw [e] at k
    have k1 := k.1
    simp only [pm_kind, Prod.mk.injEq, true_and] at k1
    obtain ⟨rfl, rfl⟩ := k1
    rcases f with f | f | f
    · exact ⟨f, rfl, k.2.2⟩
    · have := k.2.1; omega
    · have := k.2.1; omega
theorem ps_get_aj {w : pm_W} {s : ps_S} (h : ps_R w s) {r : Nat} (hi : ps_ar r 3 = true) : ∃ f, pm_get w r = some (.inl (3, ps_ln r, .inr (.inl f))) ∧ ∀ i, i < ps_ln r → pm_rd 0 f i = ps_b s r i := by
  obtain ⟨hr, hk⟩ := ps_ar_lt hi
  have k := h.2 r hr
  rw [ps_get_lt h hr]
  rw [hk] at k
  cases e : w.1 r with
  | inr a =>
    obtain ⟨c', fs⟩ := a
    rw [e] at k
    cases k.1
  | inl a =>
    obtain ⟨t', n, f⟩ := a
    rw [e] at k
    have k1 := k.1
    simp only [pm_kind, Prod.mk.injEq, true_and] at k1
    obtain ⟨rfl, rfl⟩ := k1
    rcases f with f | f | f
    · have := k.2.1; omega
    · exact ⟨f, rfl, k.2.2⟩
    · have := k.2.1; omega
theorem ps_get_ar {w : pm_W} {s : ps_S} (h : ps_R w s) {r t : Nat} (ht : 3 < t) (hi : ps_ar r t = true) : ∃ f, pm_get w r = some (.inl (t, ps_ln r, .inr (.inr f))) ∧ t < 8 ∧ ∀ i, i < ps_ln r → pm_rd none f i = some (ps_e0 r i) := by
  obtain ⟨hr, hk⟩ := ps_ar_lt hi
  have k := h.2 r hr
  rw [ps_get_lt h hr]
  rw [hk] at k
  cases e : w.1 r with
  | inr a =>
    obtain ⟨c', fs⟩ := a
    rw [e] at k
    cases k.1
  | inl a =>
    obtain ⟨t', n, f⟩ := a
    rw [e] at k
    have k1 := k.1
    simp only [pm_kind, Prod.mk.injEq, true_and] at k1
    obtain ⟨rfl, rfl⟩ := k1
    rcases f with f | f | f
    · have := k.2.1; omega
    · have := k.2.1; omega
    · exact ⟨f, rfl, k.2.1.2, k.2.2⟩
/-- another cell written: what else holds -/
theorem ps_R_set {w : pm_W} {s s' : ps_S} (h : ps_R w s) {r : Nat} {e : pm_E} (hr : r < 1179) (hk : pm_kind e = ps_K r) (ho : ps_Ok r e s') (hs : ∀ q, q ≠ r → (∀ k, ps_i s' q k = ps_i s q k) ∧ (∀ k, ps_j s' q k = ps_j s q k) ∧ (∀ k, ps_r s' q k = ps_r s q k) ∧ (∀ k, ps_a s' q k = ps_a s q k) ∧ (∀ k, ps_b s' q k = ps_b s q k)) : ps_R (pm_set w r e) s' := by
  refine ⟨h.1, fun q hq => ?_⟩
  show pm_kind (pm_up w.1 r e q) = _ ∧ ps_Ok q (pm_up w.1 r e q) s'
  rw [pm_up_eq]
  by_cases hqr : q = r
  · rw [if_pos hqr]
    subst hqr
    exact ⟨hk, ho⟩
  · rw [if_neg hqr]
    obtain ⟨k1, k2⟩ := h.2 q hq
    obtain ⟨e1, e2, e3, e4, e5⟩ := hs q hqr
    refine ⟨k1, ?_⟩
    unfold ps_Ok at *
    split at k2
    · next t n f => exact ⟨k2.1, fun i hi => (k2.2 i hi).trans (e4 i).symm⟩
    · next t n f => exact ⟨k2.1, fun i hi => (k2.2 i hi).trans (e5 i).symm⟩
    · next t n f => exact k2
    · next c fs =>
      refine ⟨k2.1, fun j hj => ?_⟩
      rw [k2.2 j hj]
      unfold ps_fv
      split
      · rw [e2]
      · rw [e3]
      · rw [e3]
      · rw [e1]
theorem ps_u_n {α : Type} {f : Nat → Nat → α} {r q : Nat} {v : α} {r' q' : Nat} (h : r' ≠ r) : ps_u f r q v r' q' = f r' q' := if_neg (fun z => h z.1)
theorem ps_u_n2 {α : Type} {f : Nat → Nat → α} {r q : Nat} {v : α} {r' q' : Nat} (h : q' ≠ q) : ps_u f r q v r' q' = f r' q' := if_neg (fun z => h z.2)
theorem ps_u_s {α : Type} {f : Nat → Nat → α} {r q : Nat} {v : α} : ps_u f r q v r q = v := if_pos ⟨rfl, rfl⟩
theorem ps_R_ua {w : pm_W} {s : ps_S} (h : ps_R w s) {r t i : Nat} {v : Int32} {f : List (Nat × Int32)} (ht : t < 3) (hi : ps_ar r t = true) (hf : ∀ i, i < ps_ln r → pm_rd 0 f i = ps_a s r i) : ps_R (pm_set w r (.inl (t, ps_ln r, .inl ((i, v) :: f)))) (ps_ua s r i v) := by
  obtain ⟨hr, hk⟩ := ps_ar_lt hi
  refine ps_R_set h hr hk.symm ⟨ht, fun j hj => ?_⟩ (fun q hq => ⟨fun _ => rfl, fun _ => rfl, fun _ => rfl, fun k => ps_u_n hq, fun _ => rfl⟩)
  show cond (Nat.beq j i) v (pm_rd 0 f j) = ps_u s.2.1 r i v r j
  by_cases e : j = i
  · subst e
    rw [Nat.beq_refl, ps_u_s]
    rfl
  · rw [pm_beq_f e, ps_u_n2 e]
    exact hf j hj
theorem ps_R_ub {w : pm_W} {s : ps_S} (h : ps_R w s) {r i : Nat} {v : Int64} {f : List (Nat × Int64)} (hi : ps_ar r 3 = true) (hf : ∀ i, i < ps_ln r → pm_rd 0 f i = ps_b s r i) : ps_R (pm_set w r (.inl (3, ps_ln r, .inr (.inl ((i, v) :: f))))) (ps_ub s r i v) := by
  obtain ⟨hr, hk⟩ := ps_ar_lt hi
  refine ps_R_set h hr hk.symm ⟨rfl, fun j hj => ?_⟩ (fun q hq => ⟨fun _ => rfl, fun _ => rfl, fun _ => rfl, fun _ => rfl, fun k => ps_u_n hq⟩)
  show cond (Nat.beq j i) v (pm_rd 0 f j) = ps_u s.2.2 r i v r j
  by_cases e : j = i
  · subst e
    rw [Nat.beq_refl, ps_u_s]
    rfl
  · rw [pm_beq_f e, ps_u_n2 e]
    exact hf j hj
/-- a field's value, written -/
def ps_w (s : ps_S) (c r q : Nat) (v : Value) : Option ps_S := match (pm_Ts c).getD q .int, v with
  | .int, .int x => some (ps_ui s r q x)
  | .boolean, .int x => cond (decide (x &&& 1 = x)) (some (ps_ui s r q x)) none
  | .long, .long x => some (ps_uj s r q x)
  | .object _, .ref x => some (ps_ur s r q x)
  | .array _, .ref x => some (ps_ur s r q x)
  | _, _ => none
theorem ps_fv_o {s s' : ps_S} {c r q : Nat} (e1 : ps_i s' r q = ps_i s r q) (e2 : ps_j s' r q = ps_j s r q) (e3 : ps_r s' r q = ps_r s r q) : ps_fv s' c r q = ps_fv s c r q := by
  unfold ps_fv
  rw [e1, e2, e3]
theorem ps_R_w {w : pm_W} {s s' : ps_S} (h : ps_R w s) {c r q : Nat} {v : Value} {fs : List Value} (hc : c < 13) (hi : ps_is r c = true) (hl : fs.length = (pm_Ts c).length) (hf : ∀ q, q < (pm_Ts c).length → fs[q]? = some (ps_fv s c r q)) (hq : q < (pm_Ts c).length) (hn : ps_fin c q = false) (hw : ps_w s c r q v = some s') : pm_okv ((pm_Ts c).getD q .int) v = true ∧ ps_R (pm_set w r (.inr (c, fs.set q v))) s' := by
  obtain ⟨hr, hk⟩ := ps_is_lt hc hi
  have key : ∀ s' : ps_S, (∀ q', q' ≠ q → ps_i s' r q' = ps_i s r q' ∧ ps_j s' r q' = ps_j s r q' ∧ ps_r s' r q' = ps_r s r q') → (ps_fv s' c r q = v) → (∀ p, p ≠ r → (∀ k, ps_i s' p k = ps_i s p k) ∧ (∀ k, ps_j s' p k = ps_j s p k) ∧ (∀ k, ps_r s' p k = ps_r s p k) ∧ (∀ k, ps_a s' p k = ps_a s p k) ∧ (∀ k, ps_b s' p k = ps_b s p k)) → ps_R (pm_set w r (.inr (c, fs.set q v))) s' := by
    intro s' h1 h2 h3
    refine ps_R_set h hr hk.symm ⟨by rw [List.length_set]; exact hl, fun j hj => ?_⟩ h3
    by_cases e : j = q
    · subst e
      rw [List.getElem?_set_self (by rw [hl]; exact hj), h2]
    · rw [List.getElem?_set_ne (fun z => e z.symm), hf j hj]
      obtain ⟨a1, a2, a3⟩ := h1 j e
      rw [ps_fv_o a1 a2 a3]
  unfold ps_w at hw
  split at hw
  · next ht =>
    cases hw
    rw [ht]
    refine ⟨rfl, key _ (fun q' hq' => ⟨ps_u_n2 hq', rfl, rfl⟩) ?_ (fun p hp => ⟨fun k => ps_u_n hp, fun _ => rfl, fun _ => rfl, fun _ => rfl, fun _ => rfl⟩)⟩
    unfold ps_fv
    rw [ht]
    exact congrArg Value.int ps_u_s
  · next ht =>
    obtain ⟨h1, hw⟩ := pm_ct hw
    cases hw
    rw [ht]
    refine ⟨h1, key _ (fun q' hq' => ⟨ps_u_n2 hq', rfl, rfl⟩) ?_ (fun p hp => ⟨fun k => ps_u_n hp, fun _ => rfl, fun _ => rfl, fun _ => rfl, fun _ => rfl⟩)⟩
    unfold ps_fv
    rw [ht]
    exact congrArg Value.int ps_u_s
  · next ht =>
    cases hw
    rw [ht]
    refine ⟨rfl, key _ (fun q' hq' => ⟨rfl, ps_u_n2 hq', rfl⟩) ?_ (fun p hp => ⟨fun _ => rfl, fun k => ps_u_n hp, fun _ => rfl, fun _ => rfl, fun _ => rfl⟩)⟩
    unfold ps_fv
    rw [ht]
    exact congrArg Value.long ps_u_s
  · next ht =>
    cases hw
    rw [ht]
    refine ⟨rfl, key _ (fun q' hq' => ⟨rfl, rfl, ps_u_n2 hq'⟩) ?_ (fun p hp => ⟨fun _ => rfl, fun _ => rfl, fun k => ps_u_n hp, fun _ => rfl, fun _ => rfl⟩)⟩
    unfold ps_fv
    rw [ht]
    dsimp only
    rw [hn]
    exact congrArg Value.ref ps_u_s
  · next ht =>
    cases hw
    rw [ht]
    refine ⟨rfl, key _ (fun q' hq' => ⟨rfl, rfl, ps_u_n2 hq'⟩) ?_ (fun p hp => ⟨fun _ => rfl, fun _ => rfl, fun k => ps_u_n hp, fun _ => rfl, fun _ => rfl⟩)⟩
    unfold ps_fv
    rw [ht]
    dsimp only
    rw [hn]
    exact congrArg Value.ref ps_u_s
  · cases hw
