theorem pm_set_sz (w : pm_W) (r : Nat) (e : pm_E) : (pm_set w r e).2 = w.2 := rfl
set_option maxHeartbeats 4000000 in
theorem pm_op_mono {own nL pc pc' : Nat} {init : Bool} {i : Instr} {L L' : pm_L} {st st' : List Value} {w w' : pm_W} {X : Option (Nat × (Nat → Int32))} (h : pm_op X own nL init i pc L st w = some (pc', L', st', w')) : w.2.1 ≤ w'.2.1 ∧ w.2.2 ≤ w'.2.2 := by
  cases i <;> simp only [pm_op, pm_load, pm_sto, pm_stoJ, pm_bin, pm_binJ, Bool.cond_eq_ite] at h <;> (repeat' split at h) <;> first
    | (cases h; exact ⟨Nat.le_refl _, Nat.le_refl _⟩)
    | (cases h; exact ⟨Nat.le_succ _, Nat.le_add_right _ _⟩)
    | (cases h; done)
theorem pm_cal_eq {i : Instr} {kd j : Nat} (h : pm_cal i = (kd, j)) : kd = 0 ∨ (kd = 1 ∧ i = .invokevirtual j) ∨ (kd = 2 ∧ i = .invokespecial j) ∨ (kd = 3 ∧ i = .invokestatic j) := by
  unfold pm_cal at h
  split at h <;> cases h
  · exact Or.inr (Or.inl ⟨rfl, rfl⟩)
  · exact Or.inr (Or.inr (Or.inl ⟨rfl, rfl⟩))
  · exact Or.inr (Or.inr (Or.inr ⟨rfl, rfl⟩))
  · exact Or.inl rfl
/-- the ways in which a step of the machine goes on -/
theorem pm_body_eq {X : Option (Nat × (Nat → Int32))} {ih : Nat → Nat → Nat → pm_L → List Value → pm_W → pm_O} {d y pc : Nat} {L : pm_L} {st : List Value} {w w' : pm_W} {o : Option Value} (h : pm_body X ih d y pc L st w = some (o, w')) : ∃ (i : Instr) (k : Nat), pm_code y pc = some (i, k) ∧
    ((pm_isR i = true ∧ pm_rtn (pm_ret y) i st = some o ∧ w' = w)
    ∨ (∃ (pc' : Nat) (L' : pm_L) (st' : List Value) (w1 : pm_W), pm_op X (pm_own y) (pm_ml y) (pm_ini y) i pc L st w = some (pc', L', st', w1) ∧ ih d y pc' L' st' w1 = some (o, w'))
    ∨ (∃ (kd j a mm pl nest : Nat), pm_cal i = (kd, j) ∧ kd ≠ 0 ∧ pm_l4 (pm_ML (pm_own y)) j = some (a, mm, pl, nest) ∧
      ((mm = 0 ∧ kd = 2 ∧ nest = 0 ∧ ∃ (r : Nat) (rest : List Value), st = .ref r :: rest ∧ pm_cats rest ≤ 8 ∧ ih d y (pc + 3) L rest w = some (o, w'))
      ∨ (mm < 3 ∧ kd = 1 ∧ nest = 0 ∧ 9 < d ∧ ∃ (v : Value) (rest : List Value), pm_txtOp mm st = some (v, rest) ∧ ih d y (pc + 3) L (v :: rest) w = some (o, w'))
      ∨ (mm < 6 ∧ kd = 3 ∧ nest = 0 ∧ ∃ (v : Value) (rest : List Value), pm_mathOp mm st = some (v, rest) ∧ pm_cats rest ≤ 8 ∧ ih d y (pc + 3) L (v :: rest) w = some (o, w'))
      ∨ (5 < mm ∧ ∃ (d' : Nat) (ar rest : List Value) (o1 : Option Value) (w1 : pm_W), d = d' + 1 ∧ st = ar.reverse ++ rest ∧ pm_cats rest ≤ 8 ∧ (lg_sl ar).length ≤ pm_ml (mm - 6)
        ∧ ((kd = 3 ∧ ar.length = pm_np (mm - 6) ∧ pm_st (mm - 6) = true) ∨ (kd ≠ 3 ∧ ar.length = pm_np (mm - 6) + 1 ∧ pm_st (mm - 6) = false ∧ pm_cls w ar.head? = some (pm_own (mm - 6)) ∧ (kd = 2 → pm_ini (mm - 6) = true) ∧ (kd ≠ 2 → nest = 0 ∧ pm_ini (mm - 6) = false)))
        ∧ ih d' (mm - 6) 0 (lv_args 0 ar) [] w = some (o1, w1) ∧ ih d y (pc + 3) L (o1.toList ++ rest) w1 = some (o, w'))))) := by
  unfold pm_body at h
  split at h
  · cases h
  next i k hcd =>
  refine ⟨i, k, hcd, ?_⟩
  cases hR : pm_isR i with
  | true =>
    rw [hR] at h
    dsimp only [cond] at h
    split at h
    · next o' ho =>
      cases h
      exact Or.inl ⟨rfl, ho, rfl⟩
    · cases h
  | false =>
    rw [hR] at h
    dsimp only [cond] at h
    right
    split at h
    · next z hcal =>
      left
      split at h
      · next pc' L' st' c n k hop => exact ⟨pc', L', st', (c, (n, k)), hop, h⟩
      · cases h
    · next kd j hne hcal =>
      right
      split at h
      · cases h
      next a mm pl nest hl =>
      have hkd : kd ≠ 0 := fun z => hne z
      refine ⟨kd, j, a, mm, pl, nest, hcal, hkd, hl, ?_⟩
      cases g0 : Nat.beq mm 0 with
      | true =>
        rw [g0] at h
        dsimp only [cond] at h
        split at h
        · next r rest =>
          obtain ⟨h1, h⟩ := pm_ct h
          rw [Bool.and_eq_true, Bool.and_eq_true] at h1
          exact Or.inl ⟨Nat.eq_of_beq_eq_true g0, Nat.eq_of_beq_eq_true h1.1.1, Nat.eq_of_beq_eq_true h1.2, r, rest, rfl, Nat.le_of_ble_eq_true h1.1.2, h⟩
        · cases h
      | false =>
        rw [g0] at h
        dsimp only [cond] at h
        right
        cases g1 : Nat.blt mm 3 with
        | true =>
          rw [g1] at h
          dsimp only [cond] at h
          left
          split at h
          · next v rest ht =>
            obtain ⟨h1, h⟩ := pm_ct h
            rw [Bool.and_eq_true, Bool.and_eq_true] at h1
            exact ⟨Nat.le_of_ble_eq_true g1, Nat.eq_of_beq_eq_true h1.1.1, Nat.eq_of_beq_eq_true h1.2, Nat.le_of_ble_eq_true h1.1.2, v, rest, ht, h⟩
          · cases h
        | false =>
          rw [g1] at h
          dsimp only [cond] at h
          right
          cases g2 : Nat.blt mm 6 with
          | true =>
            rw [g2] at h
            dsimp only [cond] at h
            left
            split at h
            · next v rest ht =>
              obtain ⟨h1, h⟩ := pm_ct h
              rw [Bool.and_eq_true, Bool.and_eq_true] at h1
              exact ⟨Nat.le_of_ble_eq_true g2, Nat.eq_of_beq_eq_true h1.1.1, Nat.eq_of_beq_eq_true h1.2, v, rest, ht, Nat.le_of_ble_eq_true h1.1.2, h⟩
            · cases h
          | false =>
            rw [g2] at h
            dsimp only [cond] at h
            right
            have g6 : 5 < mm := by
              rcases Nat.lt_or_ge 5 mm with q | q
              · exact q
              · rw [show Nat.blt mm 6 = true from Nat.ble_eq_true_of_le (by omega)] at g2
                cases g2
            refine ⟨g6, ?_⟩
            cases d with
            | zero => cases h
            | succ d' =>
              dsimp only at h
              obtain ⟨h1, h⟩ := pm_ct h
              rw [Bool.and_eq_true, Bool.and_eq_true, Bool.and_eq_true] at h1
              obtain ⟨⟨⟨h1, h2⟩, h3⟩, h4⟩ := h1
              split at h
              · next o1 c n k hc =>
                have hlen := Nat.le_of_ble_eq_true h1
                refine ⟨d', _, _, o1, (c, (n, k)), rfl, ?_, Nat.le_of_ble_eq_true h2, Nat.le_of_ble_eq_true h3, ?_, hc, h⟩
                · rw [List.reverse_reverse, List.take_append_drop]
                · rw [List.length_reverse, List.length_take, Nat.min_eq_left hlen]
                  cases gk : Nat.beq kd 3 with
                  | true =>
                    rw [gk] at h4
                    exact Or.inl ⟨Nat.eq_of_beq_eq_true gk, rfl, h4⟩
                  | false =>
                    rw [gk] at h4
                    dsimp only [cond] at h4
                    rw [Bool.and_eq_true, Bool.and_eq_true] at h4
                    obtain ⟨⟨h4, h5⟩, h6⟩ := h4
                    refine Or.inr ⟨(fun z => by rw [z] at gk; cases gk), rfl, (by simpa using h4), ?_, fun z => ?_, fun z => ?_⟩
                    · try rw [gk] at h5
                      split at h5
                      · next c' hc' => rw [hc', Nat.eq_of_beq_eq_true h5]
                      · cases h5
                    · rw [z] at h6
                      exact h6
                    · rw [pm_beq_f z] at h6
                      dsimp only [cond] at h6
                      rw [Bool.and_eq_true] at h6
                      exact ⟨Nat.eq_of_beq_eq_true h6.1, by simpa using h6.2⟩
              · cases h
theorem pm_run_mono (X : Option (Nat × (Nat → Int32))) : ∀ (n d y pc : Nat) (L : pm_L) (st : List Value) (w : pm_W) (o : Option Value) (w' : pm_W), pm_run X n d y pc L st w = some (o, w') → w.2.1 ≤ w'.2.1 ∧ w.2.2 ≤ w'.2.2 := by
  intro n
  induction n with
  | zero => intro d y pc L st w o w' h; cases h
  | succ n ih =>
    intro d y pc L st w o w' h
    rw [pm_run_succ] at h
    obtain ⟨i, k, hcd, h | h | h⟩ := pm_body_eq h
    · obtain ⟨-, -, rfl⟩ := h
      exact ⟨Nat.le_refl _, Nat.le_refl _⟩
    · obtain ⟨pc', L', st', w1, hop, h⟩ := h
      have a := pm_op_mono hop
      have b := ih _ _ _ _ _ _ _ _ h
      exact ⟨Nat.le_trans a.1 b.1, Nat.le_trans a.2 b.2⟩
    · obtain ⟨kd, j, a, mm, pl, nest, -, -, -, h | h | h | h⟩ := h
      · obtain ⟨-, -, -, r, rest, -, -, h⟩ := h
        exact ih _ _ _ _ _ _ _ _ h
      · obtain ⟨-, -, -, -, v, rest, -, h⟩ := h
        exact ih _ _ _ _ _ _ _ _ h
      · obtain ⟨-, -, -, v, rest, -, -, h⟩ := h
        exact ih _ _ _ _ _ _ _ _ h
      · obtain ⟨-, d', ar, rest, o1, w1, -, -, -, -, -, h1, h2⟩ := h
        have a := ih _ _ _ _ _ _ _ _ h1
        have b := ih _ _ _ _ _ _ _ _ h2
        exact ⟨Nat.le_trans a.1 b.1, Nat.le_trans a.2 b.2⟩
theorem pm_op_X {X : Option (Nat × (Nat → Int32))} {own nL pc : Nat} {init : Bool} {i : Instr} {L : pm_L} {st : List Value} {w : pm_W} {r : Nat × pm_L × List Value × pm_W} (h : pm_op none own nL init i pc L st w = some r) : pm_op X own nL init i pc L st w = some r := by
  cases X with
  | none => exact h
  | some x =>
    cases i
    case iaload =>
      unfold pm_op at h ⊢
      dsimp only at h ⊢
      split at h
      · next q r' rest' =>
        try dsimp only
        cases g : Nat.beq r' pm_SC with
        | true =>
          rw [g] at h
          cases h
        | false =>
          rw [g] at h
          exact h
      · cases h
    case arraylength =>
      unfold pm_op at h ⊢
      dsimp only at h ⊢
      split at h
      · next r' rest' =>
        try dsimp only
        cases g : Nat.beq r' pm_SC with
        | true =>
          rw [g] at h
          cases h
        | false =>
          rw [g] at h
          exact h
      · cases h
    all_goals exact h
/-- more steps, a script to read: the same answer -/
theorem pm_body_X {X : Option (Nat × (Nat → Int32))} {Y : Option (Nat × (Nat → Int32))} (hXY : Y = none ∨ Y = X) {ih1 ih2 : Nat → Nat → Nat → pm_L → List Value → pm_W → pm_O} (hi : ∀ (d y pc : Nat) (L : pm_L) (st : List Value) (w : pm_W) (r : Option Value × pm_W), ih1 d y pc L st w = some r → ih2 d y pc L st w = some r)
    {d y pc : Nat} {L : pm_L} {st : List Value} {w : pm_W} {r : Option Value × pm_W} (h : pm_body Y ih1 d y pc L st w = some r) : pm_body X ih2 d y pc L st w = some r := by
  unfold pm_body at h ⊢
  split at h
  · cases h
  next i k hcd =>
  try dsimp only
  cases hR : pm_isR i with
  | true =>
    rw [hR] at h
    exact h
  | false =>
    rw [hR] at h
    dsimp only [cond] at h ⊢
    split at h
    · next z hcal =>
      split at h
      · next pc' L' st' c n k hop =>
        have hop2 : pm_op X (pm_own y) (pm_ml y) (pm_ini y) i pc L st w = some (pc', L', st', (c, (n, k))) := by
          rcases hXY with e | e
          · rw [e] at hop
            exact pm_op_X hop
          · rw [← e]
            exact hop
        rw [hop2]
        exact hi _ _ _ _ _ _ _ h
      · cases h
    · next kd j hne hcal =>
      split at h
      · cases h
      next a mm pl nest hl =>
      try dsimp only
      cases g0 : Nat.beq mm 0 with
      | true =>
        rw [g0] at h
        dsimp only [cond] at h ⊢
        split at h
        · next r' rest =>
          obtain ⟨h1, h⟩ := pm_ct h
          try dsimp only
          rw [h1]
          exact hi _ _ _ _ _ _ _ h
        · cases h
      | false =>
        rw [g0] at h
        dsimp only [cond] at h ⊢
        cases g1 : Nat.blt mm 3 with
        | true =>
          rw [g1] at h
          dsimp only [cond] at h ⊢
          split at h
          · next v rest ht =>
            obtain ⟨h1, h⟩ := pm_ct h
            rw [h1]
            exact hi _ _ _ _ _ _ _ h
          · cases h
        | false =>
          rw [g1] at h
          dsimp only [cond] at h ⊢
          cases g2 : Nat.blt mm 6 with
          | true =>
            rw [g2] at h
            dsimp only [cond] at h ⊢
            split at h
            · next v rest ht =>
              obtain ⟨h1, h⟩ := pm_ct h
              rw [h1]
              exact hi _ _ _ _ _ _ _ h
            · cases h
          | false =>
            rw [g2] at h
            dsimp only [cond] at h ⊢
            cases d with
            | zero => cases h
            | succ d' =>
              dsimp only at h ⊢
              obtain ⟨h1, h⟩ := pm_ct h
              rw [h1]
              dsimp only [cond]
              split at h
              · next o1 c n k hc =>
                rw [hi _ _ _ _ _ _ _ hc]
                exact hi _ _ _ _ _ _ _ h
              · cases h
theorem pm_run_X {X Y : Option (Nat × (Nat → Int32))} (hXY : Y = none ∨ Y = X) : ∀ (n k d y pc : Nat) (L : pm_L) (st : List Value) (w : pm_W) (r : Option Value × pm_W), pm_run Y n d y pc L st w = some r → pm_run X (n + k) d y pc L st w = some r := by
  intro n
  induction n with
  | zero => intro k d y pc L st w r h; cases h
  | succ n ih =>
    intro k d y pc L st w r h
    rw [show n + 1 + k = (n + k) + 1 by omega, pm_run_succ]
    rw [pm_run_succ] at h
    exact pm_body_X hXY (fun d y pc L st w r h => ih k d y pc L st w r h) h
