set_option maxRecDepth 100000
/-! rewriting, pure: a left side at a place, what it binds, the new row; steps and where they end -/
def rw_u (B : Nat → Option (List Nat)) (k : Nat) (T : List Nat) : Nat → Option (List Nat) := fun q => if q = k then some T else B q
def rw_m (ar : Nat → Nat) (l : List Nat) : List Nat → Nat → (Nat → Option (List Nat)) → Option (Nat × (Nat → Option (List Nat)))
  | [], p, B => some (p, B)
  | c :: t, p, B =>
    if 40 ≤ c then
      (match B (c - 40) with
      | none => rw_m ar l t (p + en ar (l.drop p) 1) (rw_u B (c - 40) ((l.drop p).take (en ar (l.drop p) 1)))
      | some U => if U = (l.drop p).take (en ar (l.drop p) 1) then rw_m ar l t (p + en ar (l.drop p) 1) B else none)
    else if l[p]? = some c then rw_m ar l t (p + 1) B else none
section RWM
variable {ar : Nat → Nat} {l t : List Nat} {c p : Nat} {B : Nat → Option (List Nat)}
theorem rw_m_n (h : 40 ≤ c) (hB : B (c - 40) = none) : rw_m ar l (c :: t) p B = rw_m ar l t (p + en ar (l.drop p) 1) (rw_u B (c - 40) ((l.drop p).take (en ar (l.drop p) 1))) := by
  show (if 40 ≤ c then _ else _) = _
  rw [if_pos h, hB]
theorem rw_m_s {U : List Nat} (h : 40 ≤ c) (hB : B (c - 40) = some U) : rw_m ar l (c :: t) p B = if U = (l.drop p).take (en ar (l.drop p) 1) then rw_m ar l t (p + en ar (l.drop p) 1) B else none := by
  show (if 40 ≤ c then _ else _) = _
  rw [if_pos h, hB]
theorem rw_m_c (h : ¬ 40 ≤ c) : rw_m ar l (c :: t) p B = if l[p]? = some c then rw_m ar l t (p + 1) B else none := by
  show (if 40 ≤ c then _ else _) = _
  rw [if_neg h]
end RWM
theorem en_1c {ar : Nat → Nat} {l : List Nat} {p c k : Nat} (h : l[p]? = some c) : en ar (l.drop p) (k + 1) = 1 + en ar (l.drop (p + 1)) (k + ar c) := by
  rw [drop_c h, en_c]
/-- where it ends -/
theorem rw_m_en {ar : Nat → Nat} {l : List Nat} {σ : mSig} (hA : ArW σ ar) : ∀ {t : List Nat} {W : List Bool} {p e : Nat} {B B' : Nat → Option (List Nat)}, ws σ t W → (∀ x, x ∈ t → 40 ≤ x → ar x = 0) → rw_m ar l t p B = some (e, B') → e = p + en ar (l.drop p) W.length
  | [], W, p, e, B, B', h, _, hm => by
    have h : W = [] := h
    rw [h, List.length_nil, en_0]
    cases hm
    rfl
  | c :: t, W, p, e, B, B', h, hv, hm => by
    obtain ⟨b, W', ks, rfl, hk, h⟩ := ws_cons.mp h
    have ha := hA b c ks hk
    have hv' : ∀ x, x ∈ t → 40 ≤ x → ar x = 0 := fun x hx => hv x (List.mem_cons_of_mem _ hx)
    by_cases h40 : 40 ≤ c
    · have h0 := hv c List.mem_cons_self h40
      have hks : ks = [] := List.eq_nil_of_length_eq_zero (by omega)
      rw [hks, List.nil_append] at h
      have key : ∀ B2, rw_m ar l t (p + en ar (l.drop p) 1) B2 = some (e, B') → e = p + en ar (l.drop p) (b :: W').length := fun B2 hm => by
        have ih := rw_m_en hA h hv' hm
        rw [List.length_cons, Nat.add_comm W'.length 1, en_add, List.drop_drop]
        omega
      cases hB : B (c - 40) with
      | none => rw [rw_m_n h40 hB] at hm; exact key _ hm
      | some U =>
        rw [rw_m_s h40 hB] at hm
        split at hm
        · exact key _ hm
        · cases hm
    · rw [rw_m_c h40] at hm
      split at hm
      · next hc =>
        have ih := rw_m_en hA h hv' hm
        rw [List.length_append, ← ha] at ih
        rw [List.length_cons, en_1c hc, Nat.add_comm W'.length (ar c)]
        omega
      · cases hm
/-- what is bound once stays -/
theorem rw_m_B {ar : Nat → Nat} {l : List Nat} : ∀ {t : List Nat} {p e : Nat} {B B' : Nat → Option (List Nat)}, rw_m ar l t p B = some (e, B') → (∀ k U, B k = some U → B' k = some U) ∧ ∀ x, x ∈ t → 40 ≤ x → ∃ U, B' (x - 40) = some U
  | [], p, e, B, B', hm => by
    cases hm
    exact ⟨fun _ _ h => h, fun x hx => by cases hx⟩
  | c :: t, p, e, B, B', hm => by
    by_cases h40 : 40 ≤ c
    · cases hB : B (c - 40) with
      | none =>
        rw [rw_m_n h40 hB] at hm
        obtain ⟨i1, i2⟩ := rw_m_B hm
        refine ⟨fun k U hk => i1 k U ?_, fun x hx h => ?_⟩
        · unfold rw_u
          by_cases e : k = c - 40
          · rw [e, hB] at hk; cases hk
          · rw [if_neg e]; exact hk
        · rcases List.mem_cons.mp hx with hx | hx
          · exact ⟨_, i1 _ _ (by unfold rw_u; rw [hx, if_pos rfl])⟩
          · exact i2 x hx h
      | some U =>
        rw [rw_m_s h40 hB] at hm
        split at hm
        · obtain ⟨i1, i2⟩ := rw_m_B hm
          refine ⟨i1, fun x hx h => ?_⟩
          rcases List.mem_cons.mp hx with hx | hx
          · exact ⟨_, i1 _ _ (by rw [hx]; exact hB)⟩
          · exact i2 x hx h
        · cases hm
    · rw [rw_m_c h40] at hm
      split at hm
      · obtain ⟨i1, i2⟩ := rw_m_B hm
        refine ⟨i1, fun x hx h => ?_⟩
        rcases List.mem_cons.mp hx with hx | hx
        · rw [hx] at h; exact absurd h h40
        · exact i2 x hx h
      · cases hm
/-- a right side with what is bound -/
def rw_r (B : Nat → Option (List Nat)) : List Nat → List Nat
  | [] => []
  | c :: t => (if 40 ≤ c then (B (c - 40)).getD [] else [c]) ++ rw_r B t
theorem rw_r_v {B : Nat → Option (List Nat)} {c : Nat} {t U : List Nat} (h : 40 ≤ c) (hB : B (c - 40) = some U) : rw_r B (c :: t) = U ++ rw_r B t := by
  show (if 40 ≤ c then (B (c - 40)).getD [] else [c]) ++ rw_r B t = _
  rw [if_pos h, hB]
  rfl
theorem rw_r_c {B : Nat → Option (List Nat)} {c : Nat} {t : List Nat} (h : ¬ 40 ≤ c) : rw_r B (c :: t) = c :: rw_r B t := by
  show (if 40 ≤ c then (B (c - 40)).getD [] else [c]) ++ rw_r B t = _
  rw [if_neg h]
  rfl
/-- a left side, a right side -/
def rw_L (ar : Nat → Nat) (r : List Nat) : List Nat := (r.drop (rl_l r)).take (rl_r ar r - rl_l r)
def rw_n (B : Nat → Option (List Nat)) (ar : Nat → Nat) (r l : List Nat) (p e : Nat) : List Nat := l.take p ++ rw_r B (r.drop (rl_r ar r)) ++ l.drop e
/-- the k-th axiom takes l at p to l' -/
def rw_ax (h : tx_H) (l : List Nat) (p k : Nat) (l' : List Nat) : Prop := ∃ (w r : List Nat) (e : Nat) (B : Nat → Option (List Nat)), h.2[k]? = some (w, r) ∧ rl_is (arh h.1) r ∧ rw_m (arh h.1) l (rw_L (arh h.1) r) p (fun _ => none) = some (e, B) ∧ l' = rw_n B (arh h.1) r l p e
theorem rw_ax_det {h : tx_H} {l l' l'' : List Nat} {p k : Nat} (a : rw_ax h l p k l') (b : rw_ax h l p k l'') : l' = l'' := by
  obtain ⟨w, r, e, B, a1, a2, a3, a4⟩ := a
  obtain ⟨w', r', e', B', b1, b2, b3, b4⟩ := b
  rw [a1] at b1
  cases b1
  rw [a3] at b3
  cases b3
  rw [a4, b4]
/-- no axiom does -/
def rw_z (h : tx_H) (l : List Nat) (p k : Nat) : Prop := ∀ l', ¬ rw_ax h l p k l'
/-- one step: the first place, the first axiom -/
def rw_s (h : tx_H) (l l' : List Nat) : Prop := ∃ p k : Nat, p < l.length ∧ rw_ax h l p k l' ∧ (∀ k', k' < k → rw_z h l p k') ∧ ∀ p', p' < p → ∀ k', rw_z h l p' k'
def rw_e (h : tx_H) (l : List Nat) : Prop := ∀ p', p' < l.length → ∀ k', rw_z h l p' k'
theorem rw_s_det {h : tx_H} {l l' l'' : List Nat} (a : rw_s h l l') (b : rw_s h l l'') : l' = l'' := by
  obtain ⟨p, k, a1, a2, a3, a4⟩ := a
  obtain ⟨q, j, b1, b2, b3, b4⟩ := b
  rcases Nat.lt_trichotomy p q with z | z | z
  · exact absurd a2 (b4 p z k l')
  · subst z
    rcases Nat.lt_trichotomy k j with z | z | z
    · exact absurd a2 (b3 k z l')
    · subst z
      exact rw_ax_det a2 b2
    · exact absurd b2 (a3 j z l'')
  · exact absurd b2 (a4 q z j l'')
theorem rw_s_e {h : tx_H} {l l' : List Nat} (a : rw_s h l l') (b : rw_e h l) : False := by
  obtain ⟨p, k, a1, a2, a3, a4⟩ := a
  exact b p a1 k l' a2
/-- a row that is kept -/
def rw_g (h : tx_H) (l : List Nat) : Prop := l.length ≤ 40 ∧ ∀ (i : Nat) (d : Nat × Nat) (x : Nat), (ly (arh h.1) [(0, 0)] l)[i]? = some d → l[i]? = some x → d.1 ≤ 12 ∧ d.2 + qb x ≤ 5
def rw_go (h : tx_H) : Nat → List Nat → List Nat → Prop
  | 0, l, l' => l = l'
  | n + 1, l, l' => ∃ m, rw_go h n l m ∧ rw_s h m l' ∧ rw_g h l'
theorem rw_go_det {h : tx_H} : ∀ {n : Nat} {l a b : List Nat}, rw_go h n l a → rw_go h n l b → a = b
  | 0, l, a, b, x, y => by
    have x : l = a := x
    have y : l = b := y
    rw [← x, ← y]
  | n + 1, l, a, b, ⟨m, x1, x2, x3⟩, ⟨m', y1, y2, y3⟩ => by
    have e := rw_go_det x1 y1
    subst e
    exact rw_s_det x2 y2
theorem rw_go_pre {h : tx_H} {l : List Nat} {n : Nat} : ∀ {k : Nat} {b : List Nat}, rw_go h (n + k + 1) l b → ∃ a c, rw_go h n l a ∧ rw_s h a c ∧ rw_g h c
  | 0, b, ⟨m, x1, x2, x3⟩ => ⟨m, b, x1, x2, x3⟩
  | k + 1, b, ⟨m, x1, x2, x3⟩ => rw_go_pre (k := k) x1
/-- the rewriting's end: how many steps and the row, or -2 and none -/
def rw_A (h : tx_H) (l : List Nat) (v : Int) (nl : List Nat) : Prop := (∃ n : Nat, n ≤ 60 ∧ rw_go h n l nl ∧ rw_e h nl ∧ v = n) ∨ (v = -2 ∧ nl = [] ∧ ∃ (n : Nat) (a b : List Nat), n ≤ 60 ∧ rw_go h n l a ∧ rw_s h a b ∧ (¬ rw_g h b ∨ n = 60))
theorem rw_A_aux {h : tx_H} {l a nl b : List Nat} {n k : Nat} (g : rw_go h n l nl) (e : rw_e h nl) (g' : rw_go h k l a) (s : rw_s h a b) (hb : ¬ rw_g h b ∨ k = 60) (hn : n ≤ 60) : False := by
  rcases Nat.lt_trichotomy n k with z | z | z
  · obtain ⟨j, rfl⟩ : ∃ j, k = n + j + 1 := ⟨k - n - 1, by omega⟩
    obtain ⟨a', c, x1, x2, x3⟩ := rw_go_pre g'
    have q := rw_go_det g x1
    subst q
    exact rw_s_e x2 e
  · subst z
    have q := rw_go_det g g'
    subst q
    exact rw_s_e s e
  · obtain ⟨j, rfl⟩ : ∃ j, n = k + j + 1 := ⟨n - k - 1, by omega⟩
    obtain ⟨a', c, x1, x2, x3⟩ := rw_go_pre g
    have q := rw_go_det g' x1
    subst q
    have q := rw_s_det s x2
    subst q
    rcases hb with hb | hb
    · exact hb x3
    · omega
theorem rw_A_det {h : tx_H} {l nl nl' : List Nat} {v v' : Int} (a : rw_A h l v nl) (b : rw_A h l v' nl') : v = v' ∧ nl = nl' := by
  rcases a with ⟨n, a1, a2, a3, a4⟩ | ⟨a1, a2, n, x, y, a3, a4, a5, a6⟩ <;> rcases b with ⟨k, b1, b2, b3, b4⟩ | ⟨b1, b2, k, x', y', b3, b4, b5, b6⟩
  · rcases Nat.lt_trichotomy n k with z | z | z
    · obtain ⟨j, rfl⟩ : ∃ j, k = n + j + 1 := ⟨k - n - 1, by omega⟩
      obtain ⟨a', c, x1, x2, x3⟩ := rw_go_pre b2
      have q := rw_go_det a2 x1
      subst q
      exact (rw_s_e x2 a3).elim
    · subst z
      exact ⟨a4.trans b4.symm, rw_go_det a2 b2⟩
    · obtain ⟨j, rfl⟩ : ∃ j, n = k + j + 1 := ⟨n - k - 1, by omega⟩
      obtain ⟨a', c, x1, x2, x3⟩ := rw_go_pre a2
      have q := rw_go_det b2 x1
      subst q
      exact (rw_s_e x2 b3).elim
  · exact (rw_A_aux a2 a3 b4 b5 b6 a1).elim
  · exact (rw_A_aux b2 b3 a4 a5 a6 b1).elim
  · exact ⟨a1.trans b1.symm, a2.trans b2.symm⟩
