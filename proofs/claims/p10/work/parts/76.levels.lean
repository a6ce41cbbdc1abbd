set_option maxRecDepth 100000
/-! bound pieces stand below as many alls and somes as they count: what the reader of texts makes -/
def bc (ar : Nat → Nat) : List (Nat × Nat) → List Nat → Prop
  | [], l => l = []
  | _ :: _, [] => False
  | d :: S, c :: l => (d.1 ≤ 12 ∧ (40 ≤ c → c < 60 → c - 40 < d.2)) ∧ bc ar (List.replicate (ar c) (d.1 + 1, d.2 + qb c) ++ S) l
/-- a theory's pieces -/
def pv (g : tx_g) (c : Nat) : Prop := c ≤ 6 ∨ (10 ≤ c ∧ c < 10 + g.1.length) ∨ (20 ≤ c ∧ c < 20 + g.2.length) ∨ 40 ≤ c
theorem bc_ar {ar ar' : Nat → Nat} : ∀ {l : List Nat} {S : List (Nat × Nat)}, bc ar S l → (∀ c, c ∈ l → ar' c = ar c) → bc ar' S l
  | [], [], _, _ => rfl
  | [], _ :: _, h, _ => h.elim
  | c :: l, [], h, _ => by cases h
  | c :: l, k :: S, h, e => by
    refine ⟨h.1, ?_⟩
    rw [e c List.mem_cons_self]
    exact bc_ar h.2 (fun x hx => e x (List.mem_cons_of_mem _ hx))
theorem bc_1 {ar : Nat → Nat} {d : Nat × Nat} {c : Nat} {S : List (Nat × Nat)} {l : List Nat} (hd : d.1 ≤ 12) (hc : 40 ≤ c → c < 60 → c - 40 < d.2) (h : bc ar (List.replicate (ar c) (d.1 + 1, d.2 + qb c) ++ S) l) : bc ar (d :: S) (c :: l) := ⟨⟨hd, hc⟩, h⟩
/-- the levels of the parts that the frames want -/
def tx_sk : List tx_F → List (Nat × Nat)
  | [] => []
  | (k, _, nt, w) :: S => List.replicate (k + (if nt = true then 1 else 0)) (S.length + 1, (if w = none then 0 else 1) + (tx_bs S).length) ++ tx_sk S
theorem tx_bs_n {k : Nat} {b nt : Bool} {S : List tx_F} : tx_bs ((k, b, nt, none) :: S) = tx_bs S := rfl
theorem tx_bs_w {k : Nat} {b nt : Bool} {w : List Nat} {S : List tx_F} : tx_bs ((k, b, nt, some w) :: S) = w :: tx_bs S := rfl
theorem tx_bs_l {k : Nat} {b nt : Bool} {w : Option (List Nat)} {S : List tx_F} : (tx_bs ((k, b, nt, w) :: S)).length = (if w = none then 0 else 1) + (tx_bs S).length := by
  cases w with
  | none => rw [tx_bs_n, if_pos rfl, Nat.zero_add]
  | some w => rw [tx_bs_w, List.length_cons, if_neg (fun z => by cases z), Nat.add_comm]
/-- what is wanted at a place -/
def tx_sc : tx_C → List (Nat × Nat)
  | (0, S, _) => (S.length, (tx_bs S).length) :: tx_sk S
  | (1, S, _) => (S.length, (tx_bs S).length) :: tx_sk S
  | (2, S, _) => tx_sk S
  | _ => []
/-- the row so far makes the whole, once the rest comes; its pieces are the theory's -/
def tx_nt : List tx_F → Prop
  | [] => True
  | (_, _, nt, _) :: S => (nt = true → S.length + 1 ≤ 12) ∧ tx_nt S
def tx_Q (g : tx_g) (c : tx_C) : Prop := c.1 = 4 ∨ ((∀ T, bc (arh g) (tx_sc c) T → bc (arh g) [(0, 0)] (c.2.2.2.1 ++ T)) ∧ (∀ x, x ∈ c.2.2.2.1 → pv g x) ∧ tx_nt c.2.1)
theorem tx_at_lt {L : List (List Nat)} {w : List Nat} {k : Nat} (h : tx_at L w = some k) : k < L.length := by
  have := tx_ix_some h
  omega
theorem tx_ra_ar {g : tx_g} {b : Bool} {r : Nat} (h1 : g.1.length ≤ 6) (h : r < g.1.length) : arh g (10 + r) = tx_ra (g, b) r := by
  unfold arh tx_ra
  rw [if_neg (by omega), if_neg (by omega), if_neg (by omega), if_neg (by omega), if_neg (by omega), if_pos (by omega), show 10 + r - 10 = r from by omega]
theorem tx_fa_ar {g : tx_g} {b : Bool} {r : Nat} (h1 : g.2.length ≤ 4) (h : r < g.2.length) : arh g (20 + r) = tx_fa (g, b) r := by
  unfold arh tx_fa
  rw [if_neg (by omega), if_neg (by omega), if_neg (by omega), if_neg (by omega), if_neg (by omega), if_neg (by omega), if_pos (by omega), show 20 + r - 20 = r from by omega]
theorem tx_Rl {g : tx_g} {b : Bool} : (tx_R (g, b)).length = g.1.length := by
  unfold tx_R
  rw [List.length_map]
theorem tx_Gl {g : tx_g} {b : Bool} : (tx_G (g, b)).length = g.2.length := by
  unfold tx_G
  rw [List.length_map]
theorem qb_0 {c : Nat} (h : ¬ (c = 4 ∨ c = 5)) : qb c = 0 := by
  unfold qb
  rw [if_neg h]
theorem qb_1 {c : Nat} (h : c = 4 ∨ c = 5) : qb c = 1 := by
  unfold qb
  rw [if_pos h]
theorem tx_Q_add {g : tx_g} {l : List Nat} {S S' : List (Nat × Nat)} {c : Nat} {d : Nat × Nat} (h : ∀ T, bc (arh g) (d :: S) T → bc (arh g) [(0, 0)] (l ++ T)) (hd : d.1 ≤ 12) (hc : 40 ≤ c → c < 60 → c - 40 < d.2) (hS : S' = List.replicate (arh g c) (d.1 + 1, d.2 + qb c) ++ S) : ∀ T, bc (arh g) S' T → bc (arh g) [(0, 0)] ((l ++ [c]) ++ T) := fun T hT => by
  rw [List.append_assoc]
  exact h _ (bc_1 hd hc (by rw [← hS]; exact hT))
theorem pv_add {g : tx_g} {l : List Nat} {c : Nat} (h : ∀ x, x ∈ l → pv g x) (hc : pv g c) : ∀ x, x ∈ l ++ [c] → pv g x := fun x hx => by
  rcases List.mem_append.mp hx with hx | hx
  · exact h x hx
  · rw [List.mem_singleton] at hx
    rw [hx]
    exact hc
theorem tx_Q_bt {T : Nat → Nat} {n : Nat} {g : tx_g} {b : Bool} {S : List tx_F} {p : Nat} {l : List Nat} {fr : List (List Nat)} (h2 : g.2.length ≤ 4) (hq : tx_Q g (0, S, p, l, fr, 0)) : tx_Q g (tx_bt T n (g, b) S p l fr) := by
  rcases hq with hq | ⟨q1, q2, q3⟩
  · cases hq
  have q1 : ∀ T, bc (arh g) ((S.length, (tx_bs S).length) :: tx_sk S) T → bc (arh g) [(0, 0)] (l ++ T) := q1
  have q3 : tx_nt S := q3
  have q2 : ∀ x, x ∈ l → pv g x := q2
  unfold tx_bt
  dsimp only
  split
  · next hif =>
    split
    · next gg hg =>
      have hlt := tx_at_lt hg
      rw [tx_Gl] at hlt
      refine Or.inr ⟨tx_Q_add q1 hif.2.2.1 (fun a c => by omega) ?_, pv_add q2 (Or.inr (Or.inr (Or.inl ⟨by omega, by omega⟩))), (fun z => by cases z), q3⟩
      show List.replicate (tx_fa (g, b) gg + (if false = true then 1 else 0)) (S.length + 1, (if (none : Option (List Nat)) = none then 0 else 1) + (tx_bs S).length) ++ tx_sk S = _
      rw [tx_fa_ar (b := b) h2 hlt, qb_0 (by omega), if_neg (by decide), if_pos rfl, Nat.add_zero, Nat.zero_add, Nat.add_zero] <;> rfl
    · split
      · next c fr2 hm =>
        have hc : (40 ≤ c ∧ c < 60 → c - 40 < (tx_bs S).length) ∧ 40 ≤ c := by
          unfold tx_nm at hm
          split at hm
          · next i hi =>
            have := tx_at_lt hi
            cases hm
            omega
          · split at hm
            · cases hm
            · split at hm
              · cases hm; omega
              · split at hm
                · cases hm; omega
                · cases hm
        refine Or.inr ⟨tx_Q_add q1 hif.2.2.1 (fun a c => hc.1 ⟨a, c⟩) ?_, pv_add q2 (Or.inr (Or.inr (Or.inr hc.2))), (fun z => by cases z), q3⟩
        show List.replicate (0 + (if false = true then 1 else 0)) _ ++ tx_sk S = _
        rw [(arh_lo (g := g)).2.2.2.2 hc.2, if_neg (by decide)]
        rfl
      · exact Or.inl rfl
  · exact Or.inl rfl
theorem tx_Q_bf {T : Nat → Nat} {n : Nat} {g : tx_g} {b : Bool} {S : List tx_F} {p : Nat} {l : List Nat} {fr : List (List Nat)} (h1 : g.1.length ≤ 6) (hq : tx_Q g (1, S, p, l, fr, 0)) : tx_Q g (tx_bf T n (g, b) S p l fr) := by
  rcases hq with hq | ⟨q1, q2, q3⟩
  · cases hq
  have q1 : ∀ T, bc (arh g) ((S.length, (tx_bs S).length) :: tx_sk S) T → bc (arh g) [(0, 0)] (l ++ T) := q1
  have q3 : tx_nt S := q3
  have q2 : ∀ x, x ∈ l → pv g x := q2
  unfold tx_bf
  dsimp only
  split
  · split
    · next hif =>
      refine Or.inr ⟨tx_Q_add q1 (by show S.length ≤ 12; omega) (fun a c => by omega) ?_, pv_add q2 (Or.inl (by decide)), fun _ => hif.1, q3⟩
      show List.replicate (1 + (if true = true then 1 else 0)) (S.length + 1, (if (none : Option (List Nat)) = none then 0 else 1) + (tx_bs S).length) ++ tx_sk S = _
      rw [(arh_lo (g := g) (c := 3)).2.1 (by decide) (by decide), qb_0 (by omega), if_pos rfl, if_pos rfl, Nat.zero_add, Nat.add_zero] <;> rfl
    · exact Or.inl rfl
  · split
    · exact Or.inl rfl
    · next c hc =>
      have hcc : (c ≤ 6 ∨ ∃ r, c = 10 + r ∧ r < g.1.length) := by
        unfold tx_pc at hc
        split at hc
        · split at hc
          · cases hc; exact Or.inl (by assumption)
          · cases hc
        · split at hc
          · split at hc
            · next r hr =>
              have := tx_at_lt hr
              rw [tx_Rl] at this
              cases hc
              exact Or.inr ⟨r, rfl, this⟩
            · cases hc
          · cases hc
      have hpv : pv g c := by
        rcases hcc with z | ⟨r, rfl, z⟩
        · exact Or.inl z
        · exact Or.inr (Or.inl ⟨by omega, by omega⟩)
      have hb : 40 ≤ c → c < 60 → c - 40 < (tx_bs S).length := fun a _ => by
        rcases hcc with z | ⟨r, rfl, z⟩ <;> omega
      split
      · next hif =>
        split
        · next h45 =>
          split
          · refine Or.inr ⟨tx_Q_add q1 hif.1 hb ?_, pv_add q2 hpv, (fun z => by cases z), q3⟩
            show List.replicate (1 + (if false = true then 1 else 0)) (S.length + 1, (if (some _ : Option (List Nat)) = none then 0 else 1) + (tx_bs S).length) ++ tx_sk S = _
            rw [(arh_lo (g := g) (c := c)).2.2.1 h45, qb_1 h45, if_neg (by decide), if_neg (fun z => by cases z), Nat.add_zero, Nat.add_comm 1] <;> rfl
          · exact Or.inl rfl
        · next h45 =>
          refine Or.inr ⟨tx_Q_add q1 hif.1 hb ?_, pv_add q2 hpv, (fun z => by cases z), q3⟩
          show List.replicate (tx_ar (g, b) c + (if false = true then 1 else 0)) (S.length + 1, (if (none : Option (List Nat)) = none then 0 else 1) + (tx_bs S).length) ++ tx_sk S = _
          have e : arh g c = tx_ar (g, b) c := by
            rcases hcc with z | ⟨r, rfl, z⟩
            · unfold arh tx_ar
              by_cases c0 : c = 0
              · rw [if_pos c0, if_pos c0]
              rw [if_neg c0, if_neg c0]
              by_cases c4 : c < 4
              · rw [if_pos c4, if_pos c4]
              have c6 : c = 6 := by omega
              subst c6
              rfl
            · rw [tx_ra_ar (b := b) h1 z]
              unfold tx_ar
              rw [if_neg (by omega), if_neg (by omega), if_neg (by omega), if_neg (by omega), show 10 + r - 10 = r from by omega]
          rw [e, qb_0 h45, if_neg (by decide), if_pos rfl, Nat.add_zero, Nat.zero_add, Nat.add_zero] <;> rfl
      · exact Or.inl rfl
theorem tx_Q_st {T : Nat → Nat} {n : Nat} {g : tx_g} {b : Bool} (h1 : g.1.length ≤ 6) (h2 : g.2.length ≤ 4) {c : tx_C} (hq : tx_Q g c) : tx_Q g (tx_st T n (g, b) c) := by
  unfold tx_st
  split
  · exact tx_Q_bt h2 hq
  · exact tx_Q_bf h1 hq
  · rcases hq with hq | ⟨q1, q2, q3⟩
    · cases hq
    · exact Or.inr ⟨q1, q2, q3⟩
  · next b2 nt w S p l fr k =>
    rcases hq with hq | ⟨q1, q2, q3, q4⟩
    · cases hq
    · have q1 : ∀ T, bc (arh g) (List.replicate (0 + (if nt = true then 1 else 0)) (S.length + 1, (if w = none then 0 else 1) + (tx_bs S).length) ++ tx_sk S) T → bc (arh g) [(0, 0)] (l ++ T) := q1
      have q2 : ∀ x, x ∈ l → pv g x := q2
      cases nt
      · rw [if_neg (by decide)] at q1
        exact Or.inr ⟨q1, q2, q4⟩
      · rw [if_pos rfl] at q1
        refine Or.inr ⟨tx_Q_add (d := (S.length + 1, (if w = none then 0 else 1) + (tx_bs S).length)) (S := tx_sk S) q1 (q3 rfl) (fun a c => by omega) ?_, pv_add q2 (Or.inl (by decide)), q4⟩
        rw [(arh_lo (g := g) (c := 0)).1 rfl]
        rfl
  · next k b2 nt w S p l fr k2 =>
    rcases hq with hq | ⟨q1, q2, q3, q4⟩
    · cases hq
    · have q1 : ∀ T, bc (arh g) (List.replicate (k + 1 + (if nt = true then 1 else 0)) (S.length + 1, (if w = none then 0 else 1) + (tx_bs S).length) ++ tx_sk S) T → bc (arh g) [(0, 0)] (l ++ T) := q1
      have e : (((k, b2, nt, w) :: S).length, (tx_bs ((k, b2, nt, w) :: S)).length) :: tx_sk ((k, b2, nt, w) :: S) = List.replicate (k + 1 + (if nt = true then 1 else 0)) (S.length + 1, (if w = none then 0 else 1) + (tx_bs S).length) ++ tx_sk S := by
        rw [tx_bs_l, show k + 1 + (if nt = true then 1 else 0) = (k + (if nt = true then 1 else 0)) + 1 from by omega, List.replicate_succ]
        rfl
      refine Or.inr ⟨fun T hT => ?_, q2, q3, q4⟩
      refine q1 T ?_
      rw [← e]
      cases b2
      · exact hT
      · exact hT
  · exact hq
theorem tx_Q_go {T : Nat → Nat} {n : Nat} {g : tx_g} {b : Bool} (h1 : g.1.length ≤ 6) (h2 : g.2.length ≤ 4) {c c' : tx_C} (h : gt_go (tx_st T n (g, b)) c c') (hq : tx_Q g c) : tx_Q g c' := by
  obtain ⟨m, h⟩ := h
  induction m generalizing c with
  | zero =>
    have h : c = c' := h
    rw [← h]
    exact hq
  | succ m ih => exact ih (tx_Q_st h1 h2 hq) h
theorem tx_Q_0 {g : tx_g} {p : Nat} {fr : List (List Nat)} : tx_Q g (0, [], p, [], fr, 0) ∧ tx_Q g (1, [], p, [], fr, 0) := ⟨Or.inr ⟨fun _ h => h, (fun x hx => by cases hx), trivial⟩, Or.inr ⟨fun _ h => h, (fun x hx => by cases hx), trivial⟩⟩
/-- a whole row read -/
theorem tx_Q_end {T : Nat → Nat} {n ph p0 p : Nat} {g : tx_g} {b : Bool} {l : List Nat} {fr0 fr : List (List Nat)} (h1 : g.1.length ≤ 6) (h2 : g.2.length ≤ 4) (hph : ph = 0 ∨ ph = 1) (h : gt_go (tx_st T n (g, b)) (ph, [], p0, [], fr0, 0) (2, [], p, l, fr, 0)) : bc (arh g) [(0, 0)] l ∧ ∀ x, x ∈ l → pv g x := by
  have hq : tx_Q g (2, [], p, l, fr, 0) := by
    rcases hph with rfl | rfl
    · exact tx_Q_go h1 h2 h tx_Q_0.1
    · exact tx_Q_go h1 h2 h tx_Q_0.2
  rcases hq with hq | ⟨q1, q2, -⟩
  · cases hq
  · have := q1 [] rfl
    rw [List.append_nil] at this
    exact ⟨this, q2⟩
/-- a theory's axioms -/
def BTh (h : tx_H) : Prop := h.1.1.length ≤ 6 ∧ h.1.2.length ≤ 4 ∧ ∀ (k : Nat) (w l : List Nat), h.2[k]? = some (w, l) → bc (arh h.1) [(0, 0)] l ∧ ∀ x, x ∈ l → pv h.1 x
theorem arh_ext1 {g : tx_g} {x : List Nat × Nat} (h1 : g.1.length < 6) {c : Nat} (hc : pv g c) (h2 : g.2.length ≤ 4) : arh (g.1 ++ [x], g.2) c = arh g c ∧ pv (g.1 ++ [x], g.2) c := by
  refine ⟨?_, ?_⟩
  · unfold arh
    by_cases h : 10 ≤ c ∧ c < 20
    · rw [if_neg (by omega), if_neg (by omega), if_neg (by omega), if_neg (by omega), if_neg (by omega), if_pos (by omega), if_neg (by omega), if_neg (by omega), if_neg (by omega), if_neg (by omega), if_neg (by omega), if_pos (by omega)]
      have hl : c - 10 < g.1.length := by rcases hc with z | z | z | z <;> omega
      rw [List.getD_eq_getElem?_getD, List.getD_eq_getElem?_getD, List.getElem?_append_left hl]
    · by_cases h0 : c = 0
      · rw [if_pos h0, if_pos h0]
      rw [if_neg h0, if_neg h0]
      by_cases h4 : c < 4
      · rw [if_pos h4, if_pos h4]
      rw [if_neg h4, if_neg h4]
      by_cases h6 : c < 6
      · rw [if_pos h6, if_pos h6]
      rw [if_neg h6, if_neg h6]
      by_cases h7 : c = 6
      · rw [if_pos h7, if_pos h7]
      rw [if_neg h7, if_neg h7]
      by_cases h10 : c < 10
      · rw [if_pos h10, if_pos h10]
      have h20 : ¬ c < 20 := by omega
      rw [if_neg h10, if_neg h10, if_neg h20, if_neg h20]
  · rcases hc with z | z | z | z
    · exact Or.inl z
    · exact Or.inr (Or.inl ⟨z.1, by show c < 10 + (g.1 ++ [x]).length; rw [List.length_append]; omega⟩)
    · exact Or.inr (Or.inr (Or.inl z))
    · exact Or.inr (Or.inr (Or.inr z))
theorem arh_ext2 {g : tx_g} {x : List Nat × Nat} (h2 : g.2.length < 4) {c : Nat} (hc : pv g c) (h1 : g.1.length ≤ 6) : arh (g.1, g.2 ++ [x]) c = arh g c ∧ pv (g.1, g.2 ++ [x]) c := by
  refine ⟨?_, ?_⟩
  · unfold arh
    by_cases h : 20 ≤ c ∧ c < 40
    · rw [if_neg (by omega), if_neg (by omega), if_neg (by omega), if_neg (by omega), if_neg (by omega), if_neg (by omega), if_pos (by omega), if_neg (by omega), if_neg (by omega), if_neg (by omega), if_neg (by omega), if_neg (by omega), if_neg (by omega), if_pos (by omega)]
      have hl : c - 20 < g.2.length := by rcases hc with z | z | z | z <;> omega
      rw [List.getD_eq_getElem?_getD, List.getD_eq_getElem?_getD, List.getElem?_append_left hl]
    · by_cases h0 : c = 0
      · rw [if_pos h0, if_pos h0]
      rw [if_neg h0, if_neg h0]
      by_cases h4 : c < 4
      · rw [if_pos h4, if_pos h4]
      rw [if_neg h4, if_neg h4]
      by_cases h6 : c < 6
      · rw [if_pos h6, if_pos h6]
      rw [if_neg h6, if_neg h6]
      by_cases h7 : c = 6
      · rw [if_pos h7, if_pos h7]
      rw [if_neg h7, if_neg h7]
      by_cases h10 : c < 10
      · rw [if_pos h10, if_pos h10]
      rw [if_neg h10, if_neg h10]
      by_cases h20 : c < 20
      · rw [if_pos h20, if_pos h20]
      rw [if_neg h20, if_neg h20, if_neg (by omega), if_neg (by omega)]
  · rcases hc with z | z | z | z
    · exact Or.inl z
    · exact Or.inr (Or.inl z)
    · exact Or.inr (Or.inr (Or.inl ⟨z.1, by show c < 20 + (g.2 ++ [x]).length; rw [List.length_append]; omega⟩))
    · exact Or.inr (Or.inr (Or.inr z))
/-! the reader's machine always ends -/
theorem tx_tok_adv {T : Nat → Nat} {n p : Nat} (h : (tx_tok T n p).1 = 2 ∨ (tx_tok T n p).1 = 3) : p < n ∧ p < (tx_tok T n p).2.2.1 := by
  generalize e : tx_to tx_B T n p = a
  have hpa : p ≤ a := by rw [← e]; exact tx_to_ge
  by_cases h1 : n ≤ a
  · rw [tx_tok_end e h1] at h
    rcases h with h | h <;> cases h
  by_cases hL : tx_L (T a) = true
  · have hg : a + 1 ≤ tx_to tx_L T n a := by rw [tx_to_go (by omega) hL]; exact tx_to_ge
    rw [tx_tok_word e (by omega) hL] at h ⊢
    split at h
    · rcases h with h | h <;> cases h
    · next h8 =>
      rw [if_neg h8]
      split
      · exact ⟨by omega, by show p < tx_to tx_L T n a; omega⟩
      · exact ⟨by omega, by show p < tx_to tx_L T n a; omega⟩
  · by_cases hD : tx_D (T a) = true
    · rw [tx_tok_num e (by omega) hL hD] at h
      split at h
      · rcases h with h | h <;> cases h
      · rcases h with h | h <;> cases h
    · rw [tx_tok_sign e (by omega) hL hD] at h
      split at h
      · rcases h with h | h <;> cases h
      · rcases h with h | h <;> cases h
def tx_we : List tx_F → Nat
  | [] => 0
  | (k, _, _, _) :: S => 2 * k + 2 + tx_we S
theorem tx_bt_to {T : Nat → Nat} {n p : Nat} {E : tx_E} {S : List tx_F} {l : List Nat} {fr : List (List Nat)} : (tx_bt T n E S p l fr).1 = 4 ∨ ((tx_bt T n E S p l fr).1 = 2 ∧ p < n ∧ p < (tx_bt T n E S p l fr).2.2.1) := by
  unfold tx_bt
  dsimp only
  split
  · next h =>
    have := tx_tok_adv (Or.inl h.1)
    split
    · exact Or.inr ⟨rfl, this⟩
    · split
      · exact Or.inr ⟨rfl, this⟩
      · exact Or.inl rfl
  · exact Or.inl rfl
theorem tx_bf_to {T : Nat → Nat} {n p : Nat} {E : tx_E} {S : List tx_F} {l : List Nat} {fr : List (List Nat)} : (tx_bf T n E S p l fr).1 = 4 ∨ ((tx_bf T n E S p l fr).1 = 2 ∧ p < n ∧ p < (tx_bf T n E S p l fr).2.2.1) := by
  unfold tx_bf
  dsimp only
  split
  · next h =>
    have := tx_tok_adv (Or.inr h.1)
    split
    · exact Or.inr ⟨rfl, this⟩
    · exact Or.inl rfl
  · split
    · exact Or.inl rfl
    · next c hc =>
      have h23 : (tx_tok T n p).1 = 2 ∨ (tx_tok T n p).1 = 3 := by
        unfold tx_pc at hc
        split at hc
        · next z => exact Or.inr z
        · split at hc
          · next z => exact Or.inl z
          · cases hc
      have h1 := tx_tok_adv h23
      split
      · split
        · split
          · next h4 =>
            have h2 := tx_tok_adv (Or.inl h4.1)
            exact Or.inr ⟨rfl, h1.1, by show p < (tx_tok T n (tx_tok T n p).2.2.1).2.2.1; omega⟩
          · exact Or.inl rfl
        · exact Or.inr ⟨rfl, h1⟩
      · exact Or.inl rfl
theorem tx_halt {T : Nat → Nat} {n : Nat} {E : tx_E} : ∀ (N M : Nat) (c : tx_C), n - c.2.2.1 ≤ N → (c.1 = 2 → 2 * tx_we c.2.1 ≤ M) → (c.1 = 0 ∨ c.1 = 1 → 2 * tx_we c.2.1 + 1 ≤ M) → ∃ e, gt_go (tx_st T n E) c e ∧ tx_st T n E e = e := by
  have four : ∀ c : tx_C, c.1 = 4 → tx_st T n E c = c := fun c h => by
    obtain ⟨ph, S, p, l, fr, k⟩ := c
    have h : ph = 4 := h
    subst h
    rfl
  intro N
  induction N with
  | zero =>
    intro M
    induction M with
    | zero =>
      intro c hN h2 h01
      obtain ⟨ph, S, p, l, fr, k⟩ := c
      match ph, h2, h01 with
      | 0, _, h => exact absurd (h (Or.inl rfl)) (by omega)
      | 1, _, h => exact absurd (h (Or.inr rfl)) (by omega)
      | 2, h, _ =>
        cases S with
        | nil => exact ⟨(3, [], p, l, fr, 0), gt_one rfl, rfl⟩
        | cons f S =>
          obtain ⟨a, b, nt, w⟩ := f
          have := h rfl
          have : 2 * (2 * a + 2 + tx_we S) ≤ 0 := this
          omega
      | k + 3, _, _ => exact ⟨_, gt_refl, rfl⟩
    | succ M ih =>
      intro c hN h2 h01
      obtain ⟨ph, S, p, l, fr, k⟩ := c
      have hN : n - p ≤ 0 := hN
      match ph, h2, h01 with
      | 0, _, _ =>
        rcases tx_bt_to (T := T) (n := n) (p := p) (E := E) (S := S) (l := l) (fr := fr) with h | h
        · exact ⟨tx_bt T n E S p l fr, gt_one rfl, four _ h⟩
        · omega
      | 1, _, _ =>
        rcases tx_bf_to (T := T) (n := n) (p := p) (E := E) (S := S) (l := l) (fr := fr) with h | h
        · exact ⟨tx_bf T n E S p l fr, gt_one rfl, four _ h⟩
        · omega
      | 2, h, _ =>
        cases S with
        | nil => exact ⟨(3, [], p, l, fr, 0), gt_one rfl, rfl⟩
        | cons f S =>
          obtain ⟨a, b, nt, w⟩ := f
          have h3 := h rfl
          have h3 : 2 * (2 * a + 2 + tx_we S) ≤ M + 1 := h3
          cases a with
          | zero =>
            obtain ⟨e, g1, g2⟩ := ih (2, S, p, if nt then l ++ [0] else l, fr, 0) hN (fun _ => by show 2 * tx_we S ≤ M; omega) (fun z => by rcases z with z | z <;> cases z)
            exact ⟨e, gt_step rfl g1, g2⟩
          | succ a =>
            obtain ⟨e, g1, g2⟩ := ih (if b then 1 else 0, (a, b, nt, w) :: S, p, l, fr, 0) hN (fun z => by cases b <;> cases z) (fun _ => by show 2 * (2 * a + 2 + tx_we S) + 1 ≤ M; omega)
            exact ⟨e, gt_step rfl g1, g2⟩
      | k + 3, _, _ => exact ⟨_, gt_refl, rfl⟩
  | succ N ihN =>
    intro M
    induction M with
    | zero =>
      intro c hN h2 h01
      obtain ⟨ph, S, p, l, fr, k⟩ := c
      match ph, h2, h01 with
      | 0, _, h => exact absurd (h (Or.inl rfl)) (by omega)
      | 1, _, h => exact absurd (h (Or.inr rfl)) (by omega)
      | 2, h, _ =>
        cases S with
        | nil => exact ⟨(3, [], p, l, fr, 0), gt_one rfl, rfl⟩
        | cons f S =>
          obtain ⟨a, b, nt, w⟩ := f
          have := h rfl
          have : 2 * (2 * a + 2 + tx_we S) ≤ 0 := this
          omega
      | k + 3, _, _ => exact ⟨_, gt_refl, rfl⟩
    | succ M ih =>
      intro c hN h2 h01
      obtain ⟨ph, S, p, l, fr, k⟩ := c
      have hN : n - p ≤ N + 1 := hN
      have go : ∀ c2 : tx_C, c2.1 = 4 ∨ (c2.1 = 2 ∧ p < n ∧ p < c2.2.2.1) → ∃ e, gt_go (tx_st T n E) c2 e ∧ tx_st T n E e = e := fun c2 h => by
        rcases h with h | ⟨h, h1, h2⟩
        · exact ⟨c2, gt_refl, four _ h⟩
        · exact ihN (2 * tx_we c2.2.1) c2 (by omega) (fun _ => Nat.le_refl _) (fun z => by rcases z with z | z <;> (rw [h] at z; cases z))
      match ph, h2, h01 with
      | 0, _, _ =>
        obtain ⟨e, g1, g2⟩ := go _ (tx_bt_to (T := T) (n := n) (p := p) (E := E) (S := S) (l := l) (fr := fr))
        exact ⟨e, gt_step rfl g1, g2⟩
      | 1, _, _ =>
        obtain ⟨e, g1, g2⟩ := go _ (tx_bf_to (T := T) (n := n) (p := p) (E := E) (S := S) (l := l) (fr := fr))
        exact ⟨e, gt_step rfl g1, g2⟩
      | 2, h, _ =>
        cases S with
        | nil => exact ⟨(3, [], p, l, fr, 0), gt_one rfl, rfl⟩
        | cons f S =>
          obtain ⟨a, b, nt, w⟩ := f
          have h3 := h rfl
          have h3 : 2 * (2 * a + 2 + tx_we S) ≤ M + 1 := h3
          cases a with
          | zero =>
            obtain ⟨e, g1, g2⟩ := ih (2, S, p, if nt then l ++ [0] else l, fr, 0) hN (fun _ => by show 2 * tx_we S ≤ M; omega) (fun z => by rcases z with z | z <;> cases z)
            exact ⟨e, gt_step rfl g1, g2⟩
          | succ a =>
            obtain ⟨e, g1, g2⟩ := ih (if b then 1 else 0, (a, b, nt, w) :: S, p, l, fr, 0) hN (fun z => by cases b <;> cases z) (fun _ => by show 2 * (2 * a + 2 + tx_we S) + 1 ≤ M; omega)
            exact ⟨e, gt_step rfl g1, g2⟩
      | k + 3, _, _ => exact ⟨_, gt_refl, rfl⟩
theorem tx_fixph {T : Nat → Nat} {n : Nat} {E : tx_E} {c : tx_C} (h : tx_st T n E c = c) : c.1 ≠ 0 ∧ c.1 ≠ 1 ∧ c.1 ≠ 2 := by
  obtain ⟨ph, S, p, l, fr, k⟩ := c
  have hp := congrArg Prod.fst h
  refine ⟨fun z => ?_, fun z => ?_, fun z => ?_⟩
  · have z : ph = 0 := z
    subst z
    rcases tx_bt_to (T := T) (n := n) (p := p) (E := E) (S := S) (l := l) (fr := fr) with y | y
    · have hp : (tx_bt T n E S p l fr).1 = 0 := hp
      omega
    · have hp : (tx_bt T n E S p l fr).1 = 0 := hp
      omega
  · have z : ph = 1 := z
    subst z
    rcases tx_bf_to (T := T) (n := n) (p := p) (E := E) (S := S) (l := l) (fr := fr) with y | y
    · have hp : (tx_bf T n E S p l fr).1 = 1 := hp
      omega
    · have hp : (tx_bf T n E S p l fr).1 = 1 := hp
      omega
  · have z : ph = 2 := z
    subst z
    cases S with
    | nil => cases h
    | cons f S =>
      obtain ⟨a, b, nt, w⟩ := f
      cases a with
      | zero =>
        have h2 := congrArg (fun q : tx_C => q.2.1.length) h
        have h2 : S.length = ((0, b, nt, w) :: S).length := h2
        rw [List.length_cons] at h2
        omega
      | succ a =>
        cases b
        · cases hp
        · cases hp
def tx_QD (d : tx_D4) : Prop := BTh d.2.1
theorem tx_QD_semi {T : Nat → Nat} {n p : Nat} {h : tx_H} (hq : BTh h) : tx_QD (tx_semi T n h p) := by
  unfold tx_semi
  split
  · exact hq
  · exact hq
theorem tx_QD_lb {T : Nat → Nat} {n p : Nat} {h : tx_H} (hq : BTh h) : tx_QD (tx_lb T n h p) := by
  obtain ⟨q1, q2, q3⟩ := id hq
  unfold tx_lb
  split
  · exact hq
  · split
    · next hc =>
      unfold tx_sym
      dsimp only
      split
      · split
        · split
          · split
            · refine tx_QD_semi ?_
              rw [if_pos rfl]
              refine ⟨by show (h.1.1 ++ [_]).length ≤ 6; rw [List.length_append, List.length_singleton]; omega, q2, fun k w l hk => ?_⟩
              obtain ⟨z1, z2⟩ := q3 k w l hk
              exact ⟨bc_ar z1 (fun c hc2 => (arh_ext1 (by omega) (z2 c hc2) q2).1), fun x hx => (arh_ext1 (by omega) (z2 x hx) q2).2⟩
            · exact hq
          · exact hq
        · exact hq
      · exact hq
    · split
      · next hc =>
        unfold tx_sym
        dsimp only
        split
        · split
          · split
            · split
              · refine tx_QD_semi ?_
                rw [if_neg (by decide)]
                refine ⟨q1, by show (h.1.2 ++ [_]).length ≤ 4; rw [List.length_append, List.length_singleton]; omega, fun k w l hk => ?_⟩
                obtain ⟨z1, z2⟩ := q3 k w l hk
                exact ⟨bc_ar z1 (fun c hc2 => (arh_ext2 (by omega) (z2 c hc2) q1).1), fun x hx => (arh_ext2 (by omega) (z2 x hx) q1).2⟩
              · exact hq
            · exact hq
          · exact hq
        · exact hq
      · split
        · unfold tx_axm
          dsimp only
          split
          · split
            · split
              · exact hq
              · next ph S q l fr kk hne he =>
                refine tx_QD_semi ⟨q1, q2, fun k w l2 hk => ?_⟩
                rcases Nat.lt_or_ge k h.2.length with z | z
                · rw [List.getElem?_append_left z] at hk
                  exact q3 k w l2 hk
                · have hkl := (List.getElem?_eq_some_iff.mp hk).1
                  rw [List.length_append, List.length_singleton] at hkl
                  rw [show k = h.2.length from by omega, List.getElem?_append_right (Nat.le_refl _), Nat.sub_self] at hk
                  cases hk
                  obtain ⟨e, e1, e2⟩ := tx_halt (T := T) (n := n) (E := (h.1, true)) (n - (tx_tok T n p).2.2.1 + n) (2 * tx_we [] + 1) (1, [], (tx_tok T n (tx_tok T n p).2.2.1).2.2.1, [], [], 0) (by show n - _ ≤ _; omega) (fun z => by cases z) (fun _ => Nat.le_refl _)
                  have ee := gt_end_is e1 e2
                  rw [he] at ee
                  subst ee
                  have hq2 := tx_Q_go q1 q2 e1 tx_Q_0.2
                  have hf := tx_fixph e2
                  rcases hq2 with hq2 | ⟨y1, y2, -⟩
                  · exact (hne hq2).elim
                  · have y3 := y1 [] (by
                      obtain ⟨f0, f1, f2⟩ := hf
                      match ph, f0, f1, f2 with
                      | 0, f, _, _ => exact absurd rfl f
                      | 1, _, f, _ => exact absurd rfl f
                      | 2, _, _, f => exact absurd rfl f
                      | j + 3, _, _, _ => rfl)
                    have y3 : bc (arh h.1) [(0, 0)] (l ++ []) := y3
                    rw [List.append_nil] at y3
                    exact ⟨y3, y2⟩
            · exact hq
          · exact hq
        · exact hq
theorem tx_QD_go {T : Nat → Nat} {n : Nat} {d d' : tx_D4} (h : gt_go (tx_ln T n) d d') (hq : tx_QD d) : tx_QD d' := by
  obtain ⟨m, h⟩ := h
  induction m generalizing d with
  | zero =>
    have h : d = d' := h
    rw [← h]
    exact hq
  | succ m ih =>
    refine ih ?_ h
    unfold tx_ln
    split
    · exact tx_QD_lb hq
    · exact hq
theorem BTh_0 : BTh (([], []), []) := ⟨Nat.zero_le _, Nat.zero_le _, fun k w l hk => by cases hk⟩
/-- a theory read -/
theorem BTh_go {T : Nat → Nat} {n p k ph : Nat} {h : tx_H} (g : gt_go (tx_ln T n) (0, (([], []), []), 0, 0) (ph, h, p, k)) : BTh h := tx_QD_go g BTh_0
/-- a formula or a term read -/
theorem bc_rd {T : Nat → Nat} {N ph : Nat} {g : tx_g} {l : List Nat} (h1 : g.1.length ≤ 6) (h2 : g.2.length ≤ 4) (hph : ph = 0 ∨ ph = 1) (h : rd_ok T N (g, false) ph l) : bc (arh g) [(0, 0)] l ∧ ∀ x, x ∈ l → pv g x := by
  obtain ⟨p, fr, g1, -⟩ := h
  exact tx_Q_end h1 h2 hph g1
