set_option maxRecDepth 100000
/-! sorts of the rows that are read: a formula or a term, whole -/
def tx_ss : List tx_F → List Bool
  | [] => []
  | (k, b, nt, _) :: S => List.replicate k b ++ ((if nt = true then [true] else []) ++ tx_ss S)
def tx_sw : tx_C → List Bool
  | (0, S, _) => false :: tx_ss S
  | (1, S, _) => true :: tx_ss S
  | (2, S, _) => tx_ss S
  | _ => []
def tx_WQ (g : tx_g) (b0 : Bool) (c : tx_C) : Prop := c.1 = 4 ∨ ((∀ T, ws (sg g) T (tx_sw c) → ws (sg g) (c.2.2.2.1 ++ T) [b0]) ∧ (tx_bs c.2.1).length ≤ 5 ∧ c.2.2.2.2.1.length ≤ 12)
theorem tx_WQ_add {g : tx_g} {b0 bb : Bool} {l : List Nat} {W : List Bool} {c : Nat} {ks : List Bool} (h : ∀ T, ws (sg g) T (bb :: W) → ws (sg g) (l ++ T) [b0]) (hk : kS (sg g) bb c = some ks) : ∀ T, ws (sg g) T (ks ++ W) → ws (sg g) ((l ++ [c]) ++ T) [b0] := fun T hT => by
  rw [List.append_assoc]
  exact h _ (ws_c hk hT)
theorem tx_WQ_bt {T : Nat → Nat} {n : Nat} {g : tx_g} {b b0 : Bool} {S : List tx_F} {p : Nat} {l : List Nat} {fr : List (List Nat)} (h2 : g.2.length ≤ 4) (hq : tx_WQ g b0 (0, S, p, l, fr, 0)) : tx_WQ g b0 (tx_bt T n (g, b) S p l fr) := by
  rcases hq with hq | ⟨q1, q2, q3⟩
  · cases hq
  have q1 : ∀ T, ws (sg g) T (false :: tx_ss S) → ws (sg g) (l ++ T) [b0] := q1
  have q2 : (tx_bs S).length ≤ 5 := q2
  have q3 : fr.length ≤ 12 := q3
  unfold tx_bt
  dsimp only
  split
  · next hif =>
    split
    · next gg hg =>
      have hlt := tx_at_lt hg
      rw [tx_Gl] at hlt
      have hk : kS (sg g) false (20 + gg) = some (List.replicate (tx_fa (g, b) gg) false) := by
        have := kS_tf (σ := sg g) (p := 20 + gg) (by omega) (by show 20 + gg < 20 + g.2.length; omega)
        rw [this]
        show some (List.replicate ((g.2.getD (20 + gg - 20) ([], 0)).2) false) = _
        rw [show 20 + gg - 20 = gg from by omega]
        rfl
      exact Or.inr ⟨tx_WQ_add q1 hk, q2, q3⟩
    · split
      · next c fr2 hm =>
        have hc : (40 ≤ c ∧ c < 72) ∧ fr2.length ≤ 12 := by
          unfold tx_nm at hm
          split at hm
          · next i hi =>
            have := tx_at_lt hi
            cases hm
            omega
          · split at hm
            · cases hm
            · split at hm
              · next i hi =>
                have := tx_at_lt hi
                cases hm
                omega
              · split at hm
                · cases hm
                  rw [List.length_append, List.length_singleton]
                  omega
                · cases hm
        exact Or.inr ⟨tx_WQ_add q1 (kS_tx (σ := sg g) h2 hc.1.1 hc.1.2), q2, hc.2⟩
      · exact Or.inl rfl
  · exact Or.inl rfl
theorem tx_WQ_bf {T : Nat → Nat} {n : Nat} {g : tx_g} {b b0 : Bool} {S : List tx_F} {p : Nat} {l : List Nat} {fr : List (List Nat)} (hq : tx_WQ g b0 (1, S, p, l, fr, 0)) : tx_WQ g b0 (tx_bf T n (g, b) S p l fr) := by
  rcases hq with hq | ⟨q1, q2, q3⟩
  · cases hq
  have q1 : ∀ T, ws (sg g) T (true :: tx_ss S) → ws (sg g) (l ++ T) [b0] := q1
  have q2 : (tx_bs S).length ≤ 5 := q2
  have q3 : fr.length ≤ 12 := q3
  unfold tx_bf
  dsimp only
  split
  · split
    · exact Or.inr ⟨tx_WQ_add (c := 3) (ks := [true, true]) q1 (kS_f2 (by decide) (by decide)), q2, q3⟩
    · exact Or.inl rfl
  · split
    · exact Or.inl rfl
    · next c hc =>
      have hcc : (c ≤ 6 ∨ ∃ r, c = 10 + r ∧ r < g.1.length) := by
        unfold tx_pc at hc
        split at hc
        · split at hc
          · cases hc; exact Or.inl (by assumption)
          · cases hc
        · split at hc
          · split at hc
            · next r hr =>
              have := tx_at_lt hr
              rw [tx_Rl] at this
              cases hc
              exact Or.inr ⟨r, rfl, this⟩
            · cases hc
          · cases hc
      split
      · next hif =>
        split
        · next h45 =>
          split
          · refine Or.inr ⟨tx_WQ_add q1 (kS_f1 h45), ?_, q3⟩
            have := hif.2.2 h45
            show (tx_bs S).length + 1 ≤ 5
            omega
          · exact Or.inl rfl
        · next h45 =>
          have hk : kS (sg g) true c = some (List.replicate (tx_ar (g, b) c) (decide (c < 6))) := by
            rcases hcc with z | ⟨r, rfl, z⟩
            · rcases (show c = 0 ∨ c = 1 ∨ c = 2 ∨ c = 3 ∨ c = 6 by omega) with rfl | rfl | rfl | rfl | rfl <;> rfl
            · rw [kS_fr (by omega) (by show 10 + r < 10 + g.1.length; omega), show decide (10 + r < 6) = false from decide_eq_false (by omega)]
              have e : tx_ar (g, b) (10 + r) = tx_ra (g, b) r := by
                unfold tx_ar
                rw [if_neg (by omega), if_neg (by omega), if_neg (by omega), if_neg (by omega), show 10 + r - 10 = r from by omega]
              rw [e]
              show some (List.replicate ((g.1.getD (10 + r - 10) ([], 0)).2) false) = _
              rw [show 10 + r - 10 = r from by omega]
              rfl
          exact Or.inr ⟨tx_WQ_add q1 hk, q2, q3⟩
      · exact Or.inl rfl
theorem tx_WQ_st {T : Nat → Nat} {n : Nat} {g : tx_g} {b b0 : Bool} (h2 : g.2.length ≤ 4) {c : tx_C} (hq : tx_WQ g b0 c) : tx_WQ g b0 (tx_st T n (g, b) c) := by
  unfold tx_st
  split
  · exact tx_WQ_bt h2 hq
  · exact tx_WQ_bf hq
  · rcases hq with hq | ⟨q1, q2, q3⟩
    · cases hq
    · exact Or.inr ⟨q1, q2, q3⟩
  · next b2 nt w S p l fr k =>
    rcases hq with hq | ⟨q1, q2, q3⟩
    · cases hq
    · have q1 : ∀ T, ws (sg g) T (List.replicate 0 b2 ++ ((if nt = true then [true] else []) ++ tx_ss S)) → ws (sg g) (l ++ T) [b0] := q1
      have q2 : (tx_bs ((0, b2, nt, w) :: S)).length ≤ 5 := q2
      have q3 : fr.length ≤ 12 := q3
      rw [tx_bs_l] at q2
      have q2' : (tx_bs S).length ≤ 5 := by omega
      cases nt
      · exact Or.inr ⟨q1, q2', q3⟩
      · exact Or.inr ⟨tx_WQ_add (bb := true) (W := tx_ss S) q1 kS_f0, q2', q3⟩
  · next k b2 nt w S p l fr k2 =>
    rcases hq with hq | ⟨q1, q2, q3⟩
    · cases hq
    · have q1 : ∀ T, ws (sg g) T (List.replicate (k + 1) b2 ++ ((if nt = true then [true] else []) ++ tx_ss S)) → ws (sg g) (l ++ T) [b0] := q1
      have q2 : (tx_bs ((k + 1, b2, nt, w) :: S)).length ≤ 5 := q2
      have e : (tx_bs ((k, b2, nt, w) :: S)).length ≤ 5 := by
        rw [tx_bs_l] at q2 ⊢
        exact q2
      cases b2
      · exact Or.inr ⟨q1, e, q3⟩
      · exact Or.inr ⟨q1, e, q3⟩
  · exact hq
theorem tx_WQ_go {T : Nat → Nat} {n : Nat} {g : tx_g} {b b0 : Bool} (h2 : g.2.length ≤ 4) {c c' : tx_C} (h : gt_go (tx_st T n (g, b)) c c') (hq : tx_WQ g b0 c) : tx_WQ g b0 c' := by
  obtain ⟨m, h⟩ := h
  induction m generalizing c with
  | zero =>
    have h : c = c' := h
    rw [← h]
    exact hq
  | succ m ih => exact ih (tx_WQ_st h2 hq) h
/-- a whole row read: its sorts; at most twelve names are free -/
theorem tx_WQ_end {T : Nat → Nat} {n ph p0 p : Nat} {g : tx_g} {b : Bool} {l : List Nat} {fr0 fr : List (List Nat)} (h2 : g.2.length ≤ 4) (hph : ph = 0 ∨ ph = 1) (h12 : fr0.length ≤ 12) (h : gt_go (tx_st T n (g, b)) (ph, [], p0, [], fr0, 0) (2, [], p, l, fr, 0)) : ws (sg g) l [Nat.beq ph 1] ∧ fr.length ≤ 12 := by
  have hq : tx_WQ g (Nat.beq ph 1) (2, [], p, l, fr, 0) := by
    rcases hph with rfl | rfl
    · exact tx_WQ_go h2 h (Or.inr ⟨fun _ hT => hT, Nat.zero_le _, h12⟩)
    · exact tx_WQ_go h2 h (Or.inr ⟨fun _ hT => hT, Nat.zero_le _, h12⟩)
  rcases hq with hq | ⟨q1, -, q3⟩
  · cases hq
  · have := q1 [] rfl
    rw [List.append_nil] at this
    exact ⟨this, q3⟩
theorem mp_cst {α : Type} {b : α} : ∀ {l : List Bool}, l.map (fun _ => b) = List.replicate l.length b
  | [] => rfl
  | x :: l => by
    rw [List.map_cons, mp_cst]
    rfl
/-- a bound piece of a row counts less than five -/
theorem bc_lo {σ : mSig} {ar : Nat → Nat} (hA : ArW σ ar) : ∀ {l : List Nat} {W : List (Bool × Nat)} {S : List (Nat × Nat)}, wf σ 5 l W → bc ar S l → W.map Prod.snd = S.map Prod.snd → ∀ c, c ∈ l → 40 ≤ c → c < 60 → c - 40 < 5
  | [], _, _, _, _, _, c, hc, _, _ => by cases hc
  | x :: l, _, [], _, h, _, c, hc, _, _ => by cases h
  | x :: l, W, d :: S, hw, h, e, c, hc, h40, h60 => by
    obtain ⟨b, k, W', ks, rfl, hk5, hk, hw⟩ := wf_cons.mp hw
    have ha := hA b x ks hk
    rw [List.map_cons, List.map_cons] at e
    have e1 : k = d.2 := (List.cons.inj e).1
    have e2 : W'.map Prod.snd = S.map Prod.snd := (List.cons.inj e).2
    rcases List.mem_cons.mp hc with hc | hc
    · subst hc
      have := h.1.2 h40 h60
      omega
    · refine bc_lo hA hw h.2 ?_ c hc h40 h60
      rw [List.map_append, List.map_append, e2]
      congr 1
      unfold kL
      rw [List.map_map, List.map_replicate, ha]
      have e3 : (if x = 4 ∨ x = 5 then k + 1 else k) = d.2 + qb x := by
        unfold qb
        by_cases z : x = 4 ∨ x = 5
        · rw [if_pos z, if_pos z, e1]
        · rw [if_neg z, if_neg z, e1, Nat.add_zero]
      show ks.map (fun _ => (if x = 4 ∨ x = 5 then k + 1 else k)) = List.replicate ks.length (d.2 + qb x)
      rw [e3]
      exact mp_cst
