set_option maxRecDepth 100000
/-! what a formula is worth in a model: n things, digits D, tables ra fa, free things fr, bound things (the nearest first) -/
def sv_b (c a b : Nat) : Nat := if c = 1 then (if a = 1 ∧ b = 1 then 1 else 0) else if c = 2 then (if a = 1 ∨ b = 1 then 1 else 0) else if a = 1 ∧ ¬ b = 1 then 0 else 1
def sv_q (c : Nat) (vs : List Nat) : Nat := if c = 4 then (if vs.all (fun v => v == 1) = true then 1 else 0) else (if vs.any (fun v => v == 1) = true then 1 else 0)
def sv (n : Nat) (D ra fa ar fr : Nat → Nat) : Nat → List Nat → List Nat → Nat
  | 0, _, _ => 0
  | _ + 1, _, [] => 0
  | k + 1, env, c :: t =>
    if c = 0 then 0
    else if c < 4 then sv_b c (sv n D ra fa ar fr k env t) (sv n D ra fa ar fr k env (t.drop (en ar t 1)))
    else if c < 6 then sv_q c ((List.range n).map (fun x => sv n D ra fa ar fr k (x :: env) t))
    else if c = 6 then (if sv n D ra fa ar fr k env t = sv n D ra fa ar fr k env (t.drop (en ar t 1)) then 1 else 0)
    else if 60 ≤ c then fr (c - 60)
    else if 40 ≤ c then env.getD (c - 40) 0
    else D ((if c < 20 then ra (c - 10) else fa (c - 20)) + (if ar c = 0 then 0 else if ar c = 1 then sv n D ra fa ar fr k env t else sv n D ra fa ar fr k env t * n + sv n D ra fa ar fr k env (t.drop (en ar t 1))))
section SV
variable {n : Nat} {D ra fa ar fr : Nat → Nat} {k c : Nat} {env t : List Nat}
theorem sv_0 : sv n D ra fa ar fr (k + 1) env (0 :: t) = 0 := rfl
theorem sv_2 (h : 1 ≤ c) (h' : c < 4) : sv n D ra fa ar fr (k + 1) env (c :: t) = sv_b c (sv n D ra fa ar fr k env t) (sv n D ra fa ar fr k env (t.drop (en ar t 1))) := by
  show (if c = 0 then _ else _) = _
  rw [if_neg (by omega), if_pos h']
theorem sv_4 (h : c = 4 ∨ c = 5) : sv n D ra fa ar fr (k + 1) env (c :: t) = sv_q c ((List.range n).map (fun x => sv n D ra fa ar fr k (x :: env) t)) := by
  show (if c = 0 then _ else _) = _
  rw [if_neg (by omega), if_neg (by omega), if_pos (by omega)]
theorem sv_6 : sv n D ra fa ar fr (k + 1) env (6 :: t) = (if sv n D ra fa ar fr k env t = sv n D ra fa ar fr k env (t.drop (en ar t 1)) then 1 else 0) := rfl
theorem sv_x (h : 60 ≤ c) : sv n D ra fa ar fr (k + 1) env (c :: t) = fr (c - 60) := by
  show (if c = 0 then _ else _) = _
  rw [if_neg (by omega), if_neg (by omega), if_neg (by omega), if_neg (by omega), if_pos h]
theorem sv_y (h : 40 ≤ c) (h' : c < 60) : sv n D ra fa ar fr (k + 1) env (c :: t) = env.getD (c - 40) 0 := by
  show (if c = 0 then _ else _) = _
  rw [if_neg (by omega), if_neg (by omega), if_neg (by omega), if_neg (by omega), if_neg (by omega), if_pos h]
/-- where in its table -/
def sv_i (n : Nat) (D ra fa ar fr : Nat → Nat) (k : Nat) (env : List Nat) (c : Nat) (t : List Nat) : Nat := if ar c = 0 then 0 else if ar c = 1 then sv n D ra fa ar fr k env t else sv n D ra fa ar fr k env t * n + sv n D ra fa ar fr k env (t.drop (en ar t 1))
theorem sv_f (h : 10 ≤ c) (h' : c < 40) : sv n D ra fa ar fr (k + 1) env (c :: t) = D ((if c < 20 then ra (c - 10) else fa (c - 20)) + sv_i n D ra fa ar fr k env c t) := by
  show (if c = 0 then _ else _) = _
  rw [if_neg (by omega), if_neg (by omega), if_neg (by omega), if_neg (by omega), if_neg (by omega), if_neg (by omega)]
  rfl
end SV
theorem bc_tail {ar : Nat → Nat} : ∀ {t : List Nat} {S1 S2 : List (Nat × Nat)}, bc ar (S1 ++ S2) t → bc ar S2 (t.drop (en ar t S1.length))
  | [], [], S2, h => h
  | [], _ :: _, _, h => h.elim
  | c :: t, [], S2, h => by
    rw [List.length_nil, en_0, List.drop_zero]
    exact h
  | c :: t, d :: S1, S2, h => by
    have h2 : bc ar (List.replicate (ar c) (d.1 + 1, d.2 + qb c) ++ (S1 ++ S2)) t := h.2
    rw [← List.append_assoc] at h2
    have := bc_tail h2
    rw [List.length_append, List.length_replicate] at this
    rw [List.length_cons, en_c, Nat.add_comm 1, List.drop_succ_cons, Nat.add_comm S1.length]
    exact this
theorem wf_tail {σ : mSig} {ar : Nat → Nat} (hA : ArW σ ar) {c : Nat} {t : List Nat} {W1 W2 : List (Bool × Nat)} (h : wf σ c t (W1 ++ W2)) : wf σ c (t.drop (en ar t W1.length)) W2 := by
  obtain ⟨l1, l2, rfl, h1, h2⟩ := wf_split h
  have e := en_ws hA (r := l2) (k := 0) (wf_ws h1)
  rw [List.length_map, Nat.add_zero, en_0, Nat.add_zero] at e
  rw [e, List.drop_left]
  exact h2
/-- a part at a place: what stands there is right, depth p, level q -/
def pt (g : tx_g) (b : Bool) (p q : Nat) (t : List Nat) : Prop := ∃ S W, bc (arh g) ((p, q) :: S) t ∧ wf (sg g) 5 t ((b, q) :: W)
theorem pt_c {g : tx_g} {b : Bool} {p q c : Nat} {t : List Nat} (h : pt g b p q (c :: t)) : p ≤ 12 ∧ q ≤ 5 ∧ (40 ≤ c → c < 60 → c - 40 < q) ∧ ∃ ks, kS (sg g) b c = some ks := by
  obtain ⟨S, W, h1, h2⟩ := h
  obtain ⟨bb, k, W', ks, e, hk, h3, -⟩ := wf_cons.mp h2
  cases e
  exact ⟨h1.1.1, hk, h1.1.2, ks, h3⟩
/-- its first part -/
theorem pt_1 {g : tx_g} (hA : ArW (sg g) (arh g)) {b b1 : Bool} {p q c : Nat} {t : List Nat} {ks : List Bool} (h : pt g b p q (c :: t)) (hk : kS (sg g) b c = some (b1 :: ks)) : pt g b1 (p + 1) (q + qb c) t := by
  obtain ⟨S, W, h1, h2⟩ := h
  obtain ⟨bb, k, W', ks', e, hk', h3, h4⟩ := wf_cons.mp h2
  cases e
  rw [hk] at h3
  cases h3
  have ha := hA b c _ hk
  have h5 := h1.2
  rw [ha, List.length_cons, List.replicate_succ] at h5
  refine ⟨_, kL c q ks ++ W, h5, ?_⟩
  have e : kL c q (b1 :: ks) = (b1, q + qb c) :: kL c q ks := by
    unfold kL qb
    rw [List.map_cons]
    by_cases z : c = 4 ∨ c = 5
    · rw [if_pos z, if_pos z]
    · rw [if_neg z, if_neg z]
      rfl
  rw [e] at h4
  exact h4
/-- its second part -/
theorem pt_2 {g : tx_g} (hA : ArW (sg g) (arh g)) {b b1 b2 : Bool} {p q c : Nat} {t : List Nat} (h : pt g b p q (c :: t)) (hk : kS (sg g) b c = some [b1, b2]) (hc : qb c = 0) : pt g b2 (p + 1) q (t.drop (en (arh g) t 1)) := by
  obtain ⟨S, W, h1, h2⟩ := h
  obtain ⟨bb, k, W', ks', e, hk', h3, h4⟩ := wf_cons.mp h2
  cases e
  rw [hk] at h3
  cases h3
  have ha := hA b c _ hk
  have h5 := h1.2
  rw [ha, hc] at h5
  have h6 := bc_tail (S1 := [(p + 1, q)]) (S2 := [(p + 1, q)] ++ S) h5
  have e : kL c q [b1, b2] ++ W = [(b1, q)] ++ ((b2, q) :: W) := by
    unfold kL
    unfold qb at hc
    have hz : ¬ (c = 4 ∨ c = 5) := fun z => by rw [if_pos z] at hc; cases hc
    rw [List.map_cons, List.map_cons, List.map_nil, if_neg hz]
    rfl
  rw [e] at h4
  exact ⟨_, _, h6, wf_tail hA h4⟩
theorem md_at {m : Nat} {L : List (Nat × Nat)} {i q : Nat} {x : Nat × Nat} (h : L[i]? = some x) (hq : q < m ^ x.1) : (md_B m L)[(md_B m (L.take i)).length + q]? = some x.2 := by
  have e : L = L.take i ++ x :: L.drop (i + 1) := by
    have hl := (List.getElem?_eq_some_iff.mp h)
    obtain ⟨h1, h2⟩ := hl
    rw [← h2, List.getElem_cons_drop, List.take_append_drop]
  have e2 : md_B m L = md_B m (L.take i) ++ (List.replicate (m ^ x.1) x.2 ++ md_B m (L.drop (i + 1))) := by
    unfold md_B
    conv => lhs; rw [e]
    rw [List.map_append, List.flatten_append, List.map_cons, List.flatten_cons]
  rw [e2, List.getElem?_append_right (by omega), Nat.add_sub_cancel_left, List.getElem?_append_left (by rw [List.length_replicate]; exact hq), List.getElem?_replicate, if_pos hq]
/-- the digits' tables of a theory -/
def tra (m : Nat) (g : tx_g) (r : Nat) : Nat := md_o m g r
def tfa (m : Nat) (g : tx_g) (f : Nat) : Nat := md_o m g (g.1.length + f)
abbrev svg (m : Nat) (g : tx_g) (D fr : Nat → Nat) : Nat → List Nat → List Nat → Nat := sv m D (tra m g) (tfa m g) (arh g) fr
abbrev svi (m : Nat) (g : tx_g) (D fr : Nat → Nat) : Nat → List Nat → Nat → List Nat → Nat := sv_i m D (tra m g) (tfa m g) (arh g) fr
/-- digits below their bases -/
def dgo (m : Nat) (g : tx_g) (D : Nat → Nat) : Prop := ∀ (j b : Nat), (md_B m (md_sy m g))[j]? = some b → D j < b
theorem sv_b_le {c a b : Nat} : sv_b c a b ≤ 1 := by
  unfold sv_b
  split
  · split <;> omega
  · split
    · split <;> omega
    · split <;> omega
theorem sv_q_le {c : Nat} {vs : List Nat} : sv_q c vs ≤ 1 := by
  unfold sv_q
  split
  · split <;> omega
  · split <;> omega
/-- a symbol's place in its table -/
theorem tb_at {m : Nat} {g : tx_g} {c q : Nat} {b : Bool} {ks : List Bool} (h1 : g.1.length ≤ 6) (h2 : g.2.length ≤ 4) (hk : kS (sg g) b c = some ks) (hc : 10 ≤ c) (hc' : c < 40) (hq : q < m ^ arh g c) : (b = true ∧ c < 20 ∧ c - 10 < g.1.length ∧ (md_B m (md_sy m g))[tra m g (c - 10) + q]? = some 2) ∨ (b = false ∧ 20 ≤ c ∧ c - 20 < g.2.length ∧ (md_B m (md_sy m g))[tfa m g (c - 20) + q]? = some m) := by
  have hA := arh_k h1 h2 b c ks hk
  rcases kS_cases hk with ⟨z, a, e⟩ | ⟨z, a, a2, e⟩ | ⟨z, a, e⟩ | ⟨z, a, e⟩ | ⟨z, a, a2, e⟩ | ⟨z, a, a2, e⟩ | ⟨z, a, a2, e⟩
  · omega
  · omega
  · omega
  · omega
  · have a2 : c < 10 + g.1.length := a2
    left
    refine ⟨z, by omega, by omega, ?_⟩
    obtain ⟨w, hw⟩ := getD_2 (α := Nat) (l := g.1) (k := c - 10) (by omega)
    have e2 : arh g c = (g.1.getD (c - 10) ([], 0)).2 := by
      unfold arh
      rw [if_neg (by omega), if_neg (by omega), if_neg (by omega), if_neg (by omega), if_neg (by omega), if_pos (by omega)]
    exact md_at (md_sy_1 (m := m) hw) (by rw [← e2]; exact hq)
  · have a2 : c < 20 + g.2.length := a2
    right
    refine ⟨z, by omega, by omega, ?_⟩
    obtain ⟨w, hw⟩ := getD_2 (α := Nat) (l := g.2) (k := c - 20) (by omega)
    have e2 : arh g c = (g.2.getD (c - 20) ([], 0)).2 := by
      unfold arh
      rw [if_neg (by omega), if_neg (by omega), if_neg (by omega), if_neg (by omega), if_neg (by omega), if_neg (by omega), if_pos (by omega)]
    exact md_at (md_sy_2 (m := m) hw) (by rw [← e2]; exact hq)
  · omega
theorem pr_lt {a b m : Nat} (ha : a < m) (hb : b < m) : a * m + b < m * m := by
  have : (a + 1) * m ≤ m * m := Nat.mul_le_mul_right m ha
  rw [Nat.add_mul, Nat.one_mul] at this
  omega
theorem kS_rel {σ : mSig} {b : Bool} {c : Nat} {ks : List Bool} (hk : kS σ b c = some ks) (hc : 10 ≤ c) : ks = [] ∨ (∃ b1, ks = [b1]) ∨ ks.length ≠ 1 := by
  match ks with
  | [] => exact Or.inl rfl
  | [b1] => exact Or.inr (Or.inl ⟨b1, rfl⟩)
  | _ :: _ :: _ => exact Or.inr (Or.inr (by simp))
/-- a relation's or a function's parts are terms -/
theorem kS_tms {σ : mSig} {b : Bool} {c : Nat} {ks : List Bool} (hk : kS σ b c = some ks) (hc : 10 ≤ c) : ks = List.replicate ks.length false := by
  rcases kS_cases hk with ⟨z, a, e⟩ | ⟨z, a, a2, e⟩ | ⟨z, a, e⟩ | ⟨z, a, e⟩ | ⟨z, a, a2, e⟩ | ⟨z, a, a2, e⟩ | ⟨z, a, a2, e⟩
  · omega
  · omega
  · omega
  · omega
  · rw [e, List.length_replicate]
  · rw [e, List.length_replicate]
  · rw [e]; rfl
section SVL
variable {m : Nat} {g : tx_g} {D fr : Nat → Nat}
/-- values are small -/
theorem sv_lt (h1 : g.1.length ≤ 6) (h2 : g.2.length ≤ 4) (hm : 1 ≤ m) (hD : dgo m g D) (hr2 : ∀ p, p < g.1.length → (g.1.getD p ([], 0)).2 ≤ 2) (hf2 : ∀ p, p < g.2.length → (g.2.getD p ([], 0)).2 ≤ 2) : ∀ {k p : Nat} {env t : List Nat} {b : Bool}, pt g b p env.length t → (∀ v, 60 + v ∈ t → fr v < m) → (∀ x, x ∈ env → x < m) → (b = true → svg m g D fr k env t ≤ 1) ∧ (b = false → svg m g D fr k env t < m)
  | 0, p, env, t, b, h, hfr, he => ⟨fun _ => Nat.zero_le _, fun _ => hm⟩
  | k + 1, p, env, [], b, h, hfr, he => ⟨fun _ => Nat.zero_le _, fun _ => hm⟩
  | k + 1, p, env, c :: t, b, h, hfr, he => by
    have hA := arh_k h1 h2
    obtain ⟨hp, hq, hb, ks, hk⟩ := pt_c h
    have hfr' : ∀ v, 60 + v ∈ t → fr v < m := fun v hv => hfr v (List.mem_cons_of_mem _ hv)
    have hfd : ∀ v, 60 + v ∈ t.drop (en (arh g) t 1) → fr v < m := fun v hv => hfr' v (List.mem_of_mem_drop hv)
    by_cases c40 : 40 ≤ c
    · have hbf : b = false := by
        rcases kS_cases hk with ⟨z, a, e⟩ | ⟨z, a, a2, e⟩ | ⟨z, a, e⟩ | ⟨z, a, e⟩ | ⟨z, a, a2, e⟩ | ⟨z, a, a2, e⟩ | ⟨z, a, a2, e⟩
        · omega
        · omega
        · omega
        · omega
        · have a2 : c < 10 + g.1.length := a2
          omega
        · have a2 : c < 20 + g.2.length := a2
          omega
        · exact z
      subst hbf
      refine ⟨fun z => by (cases z), fun _ => ?_⟩
      by_cases c60 : 60 ≤ c
      · rw [svg, sv_x c60]
        exact hfr _ (by rw [show 60 + (c - 60) = c from by omega]; exact List.mem_cons_self)
      · rw [svg, sv_y c40 (by omega)]
        have hl := hb c40 (by omega)
        rw [List.getD_eq_getElem?_getD, List.getElem?_eq_getElem hl]
        exact he _ (List.getElem_mem hl)
    · by_cases c10 : 10 ≤ c
      · rw [svg, sv_f c10 (by omega)]
        have ha := hA b c ks hk
        have ht := kS_tms hk c10
        have hi : svi m g D fr k env c t < m ^ arh g c := by
          unfold svi sv_i
          rw [← ha] at ht
          have ha2 : arh g c ≤ 2 := by
            rcases kS_num hk with ⟨a, e⟩ | ⟨a, a2, e⟩ | ⟨a, e⟩ | ⟨a, e⟩ | ⟨a, a2, e⟩ | ⟨a, a2, e⟩ | ⟨a, a2, e⟩
            · omega
            · omega
            · omega
            · omega
            · have a2 : c < 10 + g.1.length := a2
              have e : ks.length = (g.1.getD (c - 10) ([], 0)).2 := e
              have := hr2 (c - 10) (by omega)
              omega
            · have a2 : c < 20 + g.2.length := a2
              have e : ks.length = (g.2.getD (c - 20) ([], 0)).2 := e
              have := hf2 (c - 20) (by omega)
              omega
            · omega
          rcases (show arh g c = 0 ∨ arh g c = 1 ∨ arh g c = 2 by omega) with e | e | e
          · rw [if_pos e, e, Nat.pow_zero]
            exact Nat.one_pos
          · rw [if_neg (by omega), if_pos e, e, Nat.pow_one]
            rw [e] at ht
            rw [ht] at hk
            have k1 := pt_1 hA h hk
            rw [qb_0 (by omega), Nat.add_zero] at k1
            exact (sv_lt h1 h2 hm hD hr2 hf2 k1 hfr' he).2 rfl
          · rw [if_neg (by omega), if_neg (by omega), e]
            rw [e] at ht
            rw [ht] at hk
            have k1 := pt_1 hA h hk
            rw [qb_0 (by omega), Nat.add_zero] at k1
            have k2 := pt_2 hA h hk (qb_0 (by omega))
            rw [Nat.pow_succ, Nat.pow_one]
            exact pr_lt ((sv_lt h1 h2 hm hD hr2 hf2 k1 hfr' he).2 rfl) ((sv_lt h1 h2 hm hD hr2 hf2 k2 hfd he).2 rfl)
        rcases tb_at h1 h2 hk c10 (by omega) hi with ⟨z, z2, z3, z4⟩ | ⟨z, z2, z3, z4⟩
        · rw [if_pos z2]
          have := hD _ _ z4
          refine ⟨fun _ => ?_, fun y => by (rw [z] at y; cases y)⟩
          show D (tra m g (c - 10) + svi m g D fr k env c t) ≤ 1
          omega
        · rw [if_neg (by omega)]
          have := hD _ _ z4
          exact ⟨fun y => by (rw [z] at y; cases y), fun _ => this⟩
      · have hbt : b = true := by
          rcases kS_cases hk with ⟨z, a, e⟩ | ⟨z, a, a2, e⟩ | ⟨z, a, e⟩ | ⟨z, a, e⟩ | ⟨z, a, a2, e⟩ | ⟨z, a, a2, e⟩ | ⟨z, a, a2, e⟩
          · exact z
          · exact z
          · exact z
          · exact z
          · exact z
          · omega
          · omega
        refine ⟨fun _ => ?_, fun z => by (rw [hbt] at z; cases z)⟩
        by_cases c0 : c = 0
        · subst c0
          exact Nat.zero_le _
        by_cases c4 : c < 4
        · rw [svg, sv_2 (by omega) c4]
          exact sv_b_le
        by_cases c6 : c < 6
        · rw [svg, sv_4 (by omega)]
          exact sv_q_le
        have hg := kS_gap hk
        have c6 : c = 6 := by omega
        subst c6
        rw [svg, sv_6]
        split <;> omega
end SVL
