/-! runs that come to an end -/
/-- from here the method comes to its end with r -/
def pm_T (X : Option (Nat × (Nat → Int32))) (d y pc : Nat) (L : pm_L) (st : List Value) (w : pm_W) (r : Option Value × pm_W) : Prop := ∃ n : Nat, pm_run X n d y pc L st w = some r
section PMS
variable {X : Option (Nat × (Nat → Int32))} {d y pc pc' k : Nat} {L L' : pm_L} {st st' : List Value} {w w' : pm_W} {r : Option Value × pm_W} {i : Instr}
theorem pm_T.lift (h : pm_T none d y pc L st w r) : pm_T X d y pc L st w r := by
  obtain ⟨n, h⟩ := h
  exact ⟨n + 0, pm_run_X (Or.inl rfl) n 0 d y pc L st w r h⟩
theorem pm_T.ret {o : Option Value} (hc : pm_code y pc = some (i, k)) (hR : pm_isR i = true) (ho : pm_rtn (pm_ret y) i st = some o) : pm_T X d y pc L st w (o, w) := by
  refine ⟨0 + 1, ?_⟩
  rw [pm_run_succ]
  unfold pm_body
  rw [hc]
  dsimp only
  rw [hR, ho]
  rfl
theorem pm_T.op {c : Nat → pm_E} {n2 k2 : Nat} (hc : pm_code y pc = some (i, k)) (hR : pm_isR i = false) (hcal : pm_cal i = (0, 0)) (ho : pm_op X (pm_own y) (pm_ml y) (pm_ini y) i pc L st w = some (pc', L', st', (c, (n2, k2)))) (h : pm_T X d y pc' L' st' (c, (n2, k2)) r) : pm_T X d y pc L st w r := by
  obtain ⟨n, h⟩ := h
  refine ⟨n + 1, ?_⟩
  rw [pm_run_succ]
  unfold pm_body
  rw [hc]
  dsimp only
  rw [hR, hcal, ho]
  exact h
/-- a call: its answer, then what is behind it -/
theorem pm_T.call {d' kd j a mm pl nest : Nat} {o1 : Option Value} {w1 : pm_W} (hc : pm_code y pc = some (i, k)) (hR : pm_isR i = false) (hcal : pm_cal i = (kd, j)) (hkd : kd ≠ 0) (hl : pm_l4 (pm_ML (pm_own y)) j = some (a, mm, pl, nest)) (h6 : 5 < mm) (hd : d = d' + 1)
    (hst : (cond (Nat.ble (cond (Nat.beq kd 3) (pm_np (mm - 6)) (pm_np (mm - 6) + 1)) st.length && Nat.ble (pm_cats (st.drop (cond (Nat.beq kd 3) (pm_np (mm - 6)) (pm_np (mm - 6) + 1)))) 8 && Nat.ble (lg_sl (st.take (cond (Nat.beq kd 3) (pm_np (mm - 6)) (pm_np (mm - 6) + 1))).reverse).length (pm_ml (mm - 6)) && (cond (Nat.beq kd 3) (pm_st (mm - 6)) (!pm_st (mm - 6) && (match pm_cls w (st.take (cond (Nat.beq kd 3) (pm_np (mm - 6)) (pm_np (mm - 6) + 1))).reverse.head? with
            | some c => Nat.beq c (pm_own (mm - 6))
            | none => false) && (cond (Nat.beq kd 2) (pm_ini (mm - 6)) (Nat.beq nest 0 && !pm_ini (mm - 6)))))) true false) = true)
    (hcall : pm_T X d' (mm - 6) 0 (lv_args 0 (st.take (cond (Nat.beq kd 3) (pm_np (mm - 6)) (pm_np (mm - 6) + 1))).reverse) [] w (o1, w1)) (h : pm_T X d y (pc + 3) L (o1.toList ++ st.drop (cond (Nat.beq kd 3) (pm_np (mm - 6)) (pm_np (mm - 6) + 1))) w1 r) : pm_T X d y pc L st w r := by
  subst hd
  obtain ⟨n1, hcall⟩ := hcall
  obtain ⟨n2, h⟩ := h
  refine ⟨n2 + n1 + 1, ?_⟩
  rw [pm_run_succ]
  have e1 := pm_run_X (X := X) (Or.inr rfl) n1 n2 _ _ _ _ _ _ _ hcall
  have e2 := pm_run_X (X := X) (Or.inr rfl) n2 n1 _ _ _ _ _ _ _ h
  rw [Nat.add_comm n1 n2] at e1
  unfold pm_body
  rw [hc]
  dsimp only
  rw [hR, hcal]
  obtain ⟨kd, rfl⟩ : ∃ q, kd = q + 1 := ⟨kd - 1, by omega⟩
  rw [cond_false]
  split
  · next z hz => cases hz
  next kd2 j2 hne hz =>
  cases hz
  rw [hl]
  dsimp only
  rw [pm_beq_f (show mm ≠ 0 by omega), show Nat.blt mm 3 = false from by rw [Bool.eq_false_iff]; intro q; have := Nat.le_of_ble_eq_true q; omega, show Nat.blt mm 6 = false from by rw [Bool.eq_false_iff]; intro q; have := Nat.le_of_ble_eq_true q; omega]
  rw [cond_false, cond_false, cond_false]
  have hst2 : ∀ b : Bool, cond b true false = true → b = true := fun b h => by cases b; cases h; rfl
  have q := hst2 _ hst
  show cond _ _ none = some r
  have key : ∀ (b : Bool) (x : pm_O), b = true → x = some r → cond b x none = some r := fun b x h1 h2 => by rw [h1]; exact h2
  refine key _ _ q ?_
  obtain ⟨c1, n3, k3⟩ := w1
  rw [e1]
  exact e2
end PMS
/-- nothing beyond the cells is written -/
theorem pm_op_out {X : Option (Nat × (Nat → Int32))} {own nL pc pc' : Nat} {init : Bool} {i : Instr} {L L' : pm_L} {st st' : List Value} {w w' : pm_W} (h : pm_op X own nL init i pc L st w = some (pc', L', st', w')) : ∀ q : Nat, w'.2.1 ≤ q → w'.1 q = w.1 q := by
  have put : ∀ (r : Nat) (e e0 : pm_E), pm_get w r = some e0 → ∀ q : Nat, (pm_set w r e).2.1 ≤ q → (pm_set w r e).1 q = w.1 q := by
    intro r e e0 hg q hq
    have h1 := (pm_get_ok hg).1
    have hq' : w.2.1 ≤ q := hq
    exact (pm_up_eq _ _ _ _).trans (if_neg (by omega))
  have new : ∀ (e : pm_E) (k : Nat) (q : Nat), (pm_new w e k).2.1 ≤ q → (pm_new w e k).1 q = w.1 q := by
    intro e k q hq
    have hq' : w.2.1 + 1 ≤ q := hq
    exact (pm_up_eq _ _ _ _).trans (if_neg (by omega))
  cases i <;> simp only [pm_op, pm_load, pm_sto, pm_stoJ, pm_bin, pm_binJ, Bool.cond_eq_ite] at h <;> (repeat' split at h) <;> first
    | (cases h; intro q _; rfl)
    | (cases h; exact put _ _ _ (by assumption))
    | (cases h; exact new _ _)
    | (cases h; done)
theorem pm_run_out (X : Option (Nat × (Nat → Int32))) : ∀ (n d y pc : Nat) (L : pm_L) (st : List Value) (w : pm_W) (o : Option Value) (w' : pm_W), pm_run X n d y pc L st w = some (o, w') → ∀ q : Nat, w'.2.1 ≤ q → w'.1 q = w.1 q := by
  intro n
  induction n with
  | zero => intro d y pc L st w o w' h; cases h
  | succ n ih =>
    intro d y pc L st w o w' h
    rw [pm_run_succ] at h
    obtain ⟨i, k, hcd, h | h | h⟩ := pm_body_eq h
    · obtain ⟨-, -, rfl⟩ := h
      intro q _; rfl
    · obtain ⟨pc', L', st', w1, hop, h⟩ := h
      intro q hq
      have b := pm_run_mono _ _ _ _ _ _ _ _ _ _ h
      exact (ih _ _ _ _ _ _ _ _ h q hq).trans (pm_op_out hop q (Nat.le_trans b.1 hq))
    · obtain ⟨kd, j, a, mm, pl, nest, -, -, -, h | h | h | h⟩ := h
      · obtain ⟨-, -, -, r, rest, -, -, h⟩ := h
        exact ih _ _ _ _ _ _ _ _ h
      · obtain ⟨-, -, -, -, v, rest, -, h⟩ := h
        exact ih _ _ _ _ _ _ _ _ h
      · obtain ⟨-, -, -, v, rest, -, -, h⟩ := h
        exact ih _ _ _ _ _ _ _ _ h
      · obtain ⟨-, d', ar, rest, o1, w1, -, -, -, -, -, h1, h2⟩ := h
        intro q hq
        have b := pm_run_mono _ _ _ _ _ _ _ _ _ _ h2
        exact (ih _ _ _ _ _ _ _ _ h2 q hq).trans (ih _ _ _ _ _ _ _ _ h1 q (Nat.le_trans b.1 hq))
/-- what kind of cell it is, how long -/
def pm_kind : pm_E → Nat × Nat × Nat
  | .inl (t, n, _) => (0, t, n)
  | .inr (c, _) => (1, c, 0)
theorem pm_op_kind {X : Option (Nat × (Nat → Int32))} {own nL pc pc' : Nat} {init : Bool} {i : Instr} {L L' : pm_L} {st st' : List Value} {w w' : pm_W} (h : pm_op X own nL init i pc L st w = some (pc', L', st', w')) : ∀ q : Nat, q < w.2.1 → pm_kind (w'.1 q) = pm_kind (w.1 q) := by
  have put : ∀ {r : Nat} {e e0 : pm_E}, pm_get w r = some e0 → pm_kind e = pm_kind e0 → ∀ q : Nat, q < w.2.1 → pm_kind ((pm_set w r e).1 q) = pm_kind (w.1 q) := by
    intro r e e0 hg hk q hq
    show pm_kind (pm_up w.1 r e q) = _
    rw [pm_up_eq]
    by_cases hr : q = r
    · rw [if_pos hr, hk, hr, (pm_get_ok hg).2]
    · rw [if_neg hr]
  have new : ∀ (e : pm_E) (k : Nat) (q : Nat), q < w.2.1 → pm_kind ((pm_new w e k).1 q) = pm_kind (w.1 q) := by
    intro e k q hq
    show pm_kind (pm_up w.1 w.2.1 e q) = _
    rw [pm_up_eq, if_neg (by omega)]
  cases i <;> simp only [pm_op, pm_load, pm_sto, pm_stoJ, pm_bin, pm_binJ, Bool.cond_eq_ite] at h <;> (repeat' split at h) <;> first
    | (cases h; intro q _; rfl)
    | (cases h; apply put; assumption; rfl)
    | (cases h; exact new _ _)
    | (cases h; done)
theorem pm_run_kind (X : Option (Nat × (Nat → Int32))) : ∀ (n d y pc : Nat) (L : pm_L) (st : List Value) (w : pm_W) (o : Option Value) (w' : pm_W), pm_run X n d y pc L st w = some (o, w') → ∀ q : Nat, q < w.2.1 → pm_kind (w'.1 q) = pm_kind (w.1 q) := by
  intro n
  induction n with
  | zero => intro d y pc L st w o w' h; cases h
  | succ n ih =>
    intro d y pc L st w o w' h
    rw [pm_run_succ] at h
    obtain ⟨i, k, hcd, h | h | h⟩ := pm_body_eq h
    · obtain ⟨-, -, rfl⟩ := h
      intro q _; rfl
    · obtain ⟨pc', L', st', w1, hop, h⟩ := h
      intro q hq
      exact (ih _ _ _ _ _ _ _ _ h q (Nat.lt_of_lt_of_le hq (pm_op_mono hop).1)).trans (pm_op_kind hop q hq)
    · obtain ⟨kd, j, a, mm, pl, nest, -, -, -, h | h | h | h⟩ := h
      · obtain ⟨-, -, -, r, rest, -, -, h⟩ := h
        exact ih _ _ _ _ _ _ _ _ h
      · obtain ⟨-, -, -, -, v, rest, -, h⟩ := h
        exact ih _ _ _ _ _ _ _ _ h
      · obtain ⟨-, -, -, v, rest, -, -, h⟩ := h
        exact ih _ _ _ _ _ _ _ _ h
      · obtain ⟨-, d', ar, rest, o1, w1, -, -, -, -, -, h1, h2⟩ := h
        intro q hq
        have b := pm_run_mono _ _ _ _ _ _ _ _ _ _ h1
        exact (ih _ _ _ _ _ _ _ _ h2 q (Nat.lt_of_lt_of_le hq b.1)).trans (ih _ _ _ _ _ _ _ _ h1 q hq)
/-- an object stays one, of its class -/
theorem pm_T_cls {X : Option (Nat × (Nat → Int32))} {d y pc : Nat} {L : pm_L} {st : List Value} {w : pm_W} {o : Option Value} {w' : pm_W} (h : pm_T X d y pc L st w (o, w')) {q c : Nat} (hc : pm_cls w (some (.ref q)) = some c) : pm_cls w' (some (.ref q)) = some c := by
  obtain ⟨n, h⟩ := h
  obtain ⟨r, fs, e, hg⟩ := pm_cls_eq hc
  cases e
  obtain ⟨g1, g2⟩ := pm_get_ok hg
  have hk := pm_run_kind _ _ _ _ _ _ _ _ _ _ h q g1
  have hm := pm_run_mono _ _ _ _ _ _ _ _ _ _ h
  rw [g2] at hk
  unfold pm_cls
  dsimp only
  unfold pm_get
  rw [show Nat.blt q w'.2.1 = true from Nat.ble_eq_true_of_le (Nat.lt_of_lt_of_le g1 hm.1)]
  dsimp only [cond]
  cases e : w'.1 q with
  | inl a =>
    rw [e] at hk
    obtain ⟨t, n, f⟩ := a
    cases hk
  | inr a =>
    rw [e] at hk
    obtain ⟨c', fs'⟩ := a
    cases hk
    rfl
