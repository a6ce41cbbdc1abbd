set_option maxRecDepth 100000
/-! rows: where parts end, how deep they lie; the class's shapes, the reference's endOf -/
/-- what w parts take of a list, by arities -/
def en (ar : Nat → Nat) : List Nat → Nat → Nat
  | [], _ => 0
  | _ :: _, 0 => 0
  | c :: l, w + 1 => 1 + en ar l (w + ar c)
theorem en_0 {ar : Nat → Nat} {l : List Nat} : en ar l 0 = 0 := by cases l <;> rfl
theorem en_c {ar : Nat → Nat} {c w : Nat} {l : List Nat} : en ar (c :: l) (w + 1) = 1 + en ar l (w + ar c) := rfl
theorem en_add {ar : Nat → Nat} : ∀ {l : List Nat} {a b : Nat}, en ar l (a + b) = en ar l a + en ar (l.drop (en ar l a)) b
  | [], a, b => rfl
  | c :: l, 0, b => by
    rw [Nat.zero_add, en_0, List.drop_zero, Nat.zero_add]
  | c :: l, a + 1, b => by
    rw [show a + 1 + b = (a + b) + 1 from by omega, en_c, en_c, show a + b + ar c = (a + ar c) + b from by omega, en_add, Nat.add_comm 1 (en ar l (a + ar c)), List.drop_succ_cons]
    omega
def ArW (σ : mSig) (ar : Nat → Nat) : Prop := ∀ (b : Bool) (p : Nat) (ks : List Bool), kS σ b p = some ks → ar p = ks.length
theorem en_ws {σ : mSig} {ar : Nat → Nat} (hA : ArW σ ar) : ∀ {m r : List Nat} {W : List Bool} {k : Nat}, ws σ m W → en ar (m ++ r) (W.length + k) = m.length + en ar r k
  | [], r, W, k, h => by
    have h : W = [] := h
    rw [h]
    show en ar ([] ++ r) (0 + k) = 0 + en ar r k
    rw [List.nil_append, Nat.zero_add, Nat.zero_add]
  | c :: m, r, W, k, h => by
    obtain ⟨b, W', ks, rfl, hk, h⟩ := ws_cons.mp h
    have ih := en_ws hA (r := r) (k := k) h
    rw [List.length_append] at ih
    rw [List.cons_append, List.length_cons, show W'.length + 1 + k = (W'.length + k) + 1 from by omega, en_c, hA b c ks hk, show W'.length + k + ks.length = ks.length + W'.length + k from by omega, ih, List.length_cons]
    omega
theorem en_ws1 {σ : mSig} {ar : Nat → Nat} (hA : ArW σ ar) {m : List Nat} {W : List Bool} (h : ws σ m W) : en ar m W.length = m.length := by
  have := en_ws hA (r := []) (k := 0) h
  rw [List.append_nil, en_0] at this
  exact this
theorem en_p1 {σ : mSig} {ar : Nat → Nat} (hA : ArW σ ar) {m r : List Nat} {b : Bool} (h : ws σ m [b]) : en ar (m ++ r) 1 = m.length := by
  have := en_ws hA (r := r) (k := 0) h
  rw [en_0] at this
  exact this
theorem ws_drop {σ : mSig} : ∀ {l : List Nat} {W : List Bool} (i : Nat), ws σ l W → ∃ W', ws σ (l.drop i) W'
  | l, W, 0, h => ⟨W, by rw [List.drop_zero]; exact h⟩
  | [], W, i + 1, h => ⟨W, h⟩
  | c :: l, W, i + 1, h => by
    obtain ⟨b, W', ks, rfl, hk, h⟩ := ws_cons.mp h
    rw [List.drop_succ_cons]
    exact ws_drop i h
theorem en_lt {σ : mSig} {ar : Nat → Nat} (hA : ArW σ ar) {l : List Nat} {W : List Bool} {k : Nat} (h : ws σ l W) (hk : k < W.length) : en ar l k < l.length := by
  rw [← List.take_append_drop k W] at h
  obtain ⟨l1, l2, rfl, h1, h2⟩ := ws_split h
  have e := en_ws hA (r := l2) (k := 0) h1
  rw [en_0, List.length_take, Nat.min_eq_left (by omega)] at e
  rw [Nat.add_zero] at e
  rw [e, List.length_append]
  have : l2 ≠ [] := fun z => by
    rw [z] at h2
    have h2 : W.drop k = [] := h2
    have := congrArg List.length h2
    rw [List.length_drop, List.length_nil] at this
    omega
  have := Nat.pos_of_ne_zero (fun z => this (List.eq_nil_of_length_eq_zero z))
  omega
theorem en_le {σ : mSig} {ar : Nat → Nat} (hA : ArW σ ar) {l : List Nat} {W : List Bool} {k : Nat} (h : ws σ l W) (hk : k ≤ W.length) : en ar l k ≤ l.length := by
  rcases Nat.lt_or_ge k W.length with z | z
  · exact Nat.le_of_lt (en_lt hA h z)
  · rw [show k = W.length from by omega, en_ws1 hA h]
    exact Nat.le_refl _
/-- the rest behind k parts is well formed too -/
theorem en_rest {σ : mSig} {ar : Nat → Nat} (hA : ArW σ ar) {l : List Nat} {W : List Bool} {k : Nat} (h : ws σ l W) (hk : k ≤ W.length) : ws σ (l.drop (en ar l k)) (W.drop k) ∧ ws σ (l.take (en ar l k)) (W.take k) := by
  have h' := h
  rw [← List.take_append_drop k W] at h
  obtain ⟨l1, l2, rfl, h1, h2⟩ := ws_split h
  have e := en_ws hA (r := l2) (k := 0) h1
  rw [en_0, List.length_take, Nat.min_eq_left (by omega), Nat.add_zero] at e
  rw [e, Nat.add_zero, List.drop_left, List.take_left]
  exact ⟨h2, h1⟩
/-- relations and functions, as sorts know them -/
def sg (g : tx_g) : mSig := ((g.1.length, g.2.length), (fun r => (g.1.getD r ([], 0)).2, fun f => (g.2.getD f ([], 0)).2))
def arh (g : tx_g) (c : Nat) : Nat := if c = 0 then 0 else if c < 4 then 2 else if c < 6 then 1 else if c = 6 then 2 else if c < 10 then 0 else if c < 20 then (g.1.getD (c - 10) ([], 0)).2 else if c < 40 then (g.2.getD (c - 20) ([], 0)).2 else 0
theorem arh_k {g : tx_g} (h1 : g.1.length ≤ 6) (h2 : g.2.length ≤ 4) : ArW (sg g) (arh g) := fun b p ks hk => by
  unfold arh
  rcases kS_num hk with ⟨a, e⟩ | ⟨a, a2, e⟩ | ⟨a, e⟩ | ⟨a, e⟩ | ⟨a, a2, e⟩ | ⟨a, a2, e⟩ | ⟨a, a2, e⟩
  · rw [if_pos a, e]
  · rw [if_neg (by omega), if_pos (by omega), e]
  · rw [if_neg (by omega), if_neg (by omega), if_pos (by omega), e]
  · rw [if_neg (by omega), if_neg (by omega), if_neg (by omega), if_pos (by omega), e]
  · have a2 : p < 10 + g.1.length := a2
    have e : ks.length = (g.1.getD (p - 10) ([], 0)).2 := e
    rw [if_neg (by omega), if_neg (by omega), if_neg (by omega), if_neg (by omega), if_neg (by omega), if_pos (by omega), e]
  · have a2 : p < 20 + g.2.length := a2
    have e : ks.length = (g.2.getD (p - 20) ([], 0)).2 := e
    rw [if_neg (by omega), if_neg (by omega), if_neg (by omega), if_neg (by omega), if_neg (by omega), if_neg (by omega), if_pos (by omega), e]
  · rw [if_neg (by omega), if_neg (by omega), if_neg (by omega), if_neg (by omega), if_neg (by omega), if_neg (by omega), if_neg (by omega), e]
theorem getD_2 {α : Type} {l : List (List Nat × Nat)} {k : Nat} (h : k < l.length) : ∃ w, l[k]? = some (w, (l.getD k ([], 0)).2) := by
  refine ⟨(l.getD k ([], 0)).1, ?_⟩
  rw [List.getD_eq_getElem?_getD, List.getElem?_eq_getElem h]
  rfl
/-- the class's arities of pieces that can stand -/
theorem cv_arh {s : ps_S} {th : Nat} {g : tx_g} (H : cv_E s th g) {b : Bool} {p : Nat} {ks : List Bool} (hk : kS (sg g) b p = some ks) : (if p < 40 then (ps_a s (th + 4) p).toInt else 0) = (arh g p : Nat) := by
  have hA := arh_k H.2.2.1 H.2.2.2.1 b p ks hk
  have h1 := H.2.2.1
  have h2 := H.2.2.2.1
  obtain ⟨b0, b1, b2, b3, b4, b5, b6⟩ := H.2.2.2.2.2.2.1
  rw [hA]
  rcases kS_num hk with ⟨a, e⟩ | ⟨a, a2, e⟩ | ⟨a, e⟩ | ⟨a, e⟩ | ⟨a, a2, e⟩ | ⟨a, a2, e⟩ | ⟨a, a2, e⟩
  · subst a
    rw [if_pos (by decide), b0, e]; rfl
  · rcases (show p = 1 ∨ p = 2 ∨ p = 3 from by omega) with rfl | rfl | rfl
    · rw [if_pos (by decide), b1, e]; rfl
    · rw [if_pos (by decide), b2, e]; rfl
    · rw [if_pos (by decide), b3, e]; rfl
  · rcases a with rfl | rfl
    · rw [if_pos (by decide), b4, e]; rfl
    · rw [if_pos (by decide), b5, e]; rfl
  · subst a
    rw [if_pos (by decide), b6, e]; rfl
  · have a2 : p < 10 + g.1.length := a2
    have e : ks.length = (g.1.getD (p - 10) ([], 0)).2 := e
    obtain ⟨w, hw⟩ := getD_2 (α := Nat) (l := g.1) (k := p - 10) (by omega)
    have z := (H.2.2.2.2.1 _ _ _ hw).2.2.2
    rw [show 10 + (p - 10) = p from by omega] at z
    rw [if_pos (by omega), z, e]
  · have a2 : p < 20 + g.2.length := a2
    have e : ks.length = (g.2.getD (p - 20) ([], 0)).2 := e
    obtain ⟨w, hw⟩ := getD_2 (α := Nat) (l := g.2) (k := p - 20) (by omega)
    have z := (H.2.2.2.2.2.1 _ _ _ hw).2.2.2
    rw [show 20 + (p - 20) = p from by omega] at z
    rw [if_pos (by omega), z, e]
  · rw [if_neg (by omega), e]; rfl
theorem xmin1n {x : Int32} {a : Nat} (h : x.toInt = a) (ha : 1 ≤ a) : (x + (-1)).toInt = (a - 1 : Nat) := by
  have h2 := xmin1 h
  generalize (x + (-1)).toInt = q at h2 ⊢
  omega
/-- depth and quantifiers around, piece by piece; a stack of the parts that are wanted -/
def qb (c : Nat) : Nat := if c = 4 ∨ c = 5 then 1 else 0
def ly (ar : Nat → Nat) : List (Nat × Nat) → List Nat → List (Nat × Nat)
  | [], _ => []
  | _ :: _, [] => []
  | d :: S, c :: l => d :: ly ar (List.replicate (ar c) (d.1 + 1, d.2 + qb c) ++ S) l
/-- a shape's rows -/
def shb (r : Nat) : Bool := !ps_is r 6 || ((Nat.beq (ps_c0 r 0) (r + 1) && Nat.beq (ps_c0 r 1) (r + 2) && Nat.beq (ps_c0 r 2) (r + 3)) && (Nat.beq (ps_ln (r + 1)) 40 && Nat.beq (ps_ln (r + 2)) 40 && Nat.beq (ps_ln (r + 3)) 40) && Nat.ble 50 r)
def sha (a : Nat) : Nat → Bool
  | 0 => true
  | n + 1 => shb (a + n) && sha a n
theorem sha_ok {a : Nat} : ∀ {n : Nat}, sha a n = true → ∀ r, a ≤ r → r < a + n → shb r = true
  | 0, _, r, h1, h2 => by omega
  | n + 1, h, r, h1, h2 => by
    unfold sha at h
    rw [Bool.and_eq_true] at h
    by_cases e : r = a + n
    · rw [e]; exact h.1
    · exact sha_ok h.2 r h1 (by omega)
set_option maxRecDepth 1000000
theorem sha_0 : sha 0 200 = true := by decide +kernel
theorem sha_1 : sha 200 200 = true := by decide +kernel
theorem sha_2 : sha 400 200 = true := by decide +kernel
theorem sha_3 : sha 600 200 = true := by decide +kernel
theorem sha_4 : sha 800 200 = true := by decide +kernel
theorem sha_5 : sha 1000 131 = true := by decide +kernel
set_option maxRecDepth 100000
theorem shr {r : Nat} (h : ps_is r 6 = true) : (ps_c0 r 0 = r + 1 ∧ ps_c0 r 1 = r + 2 ∧ ps_c0 r 2 = r + 3) ∧ (ps_ln (r + 1) = 40 ∧ ps_ln (r + 2) = 40 ∧ ps_ln (r + 3) = 40) ∧ 50 ≤ r := by
  have hr := xis_lt (by decide) h
  have k : shb r = true := by
    by_cases h0 : r < 200
    · exact sha_ok sha_0 r (by omega) (by omega)
    by_cases h1 : r < 400
    · exact sha_ok sha_1 r (by omega) (by omega)
    by_cases h2 : r < 600
    · exact sha_ok sha_2 r (by omega) (by omega)
    by_cases h3 : r < 800
    · exact sha_ok sha_3 r (by omega) (by omega)
    by_cases h4 : r < 1000
    · exact sha_ok sha_4 r (by omega) (by omega)
    exact sha_ok sha_5 r (by omega) (by omega)
  unfold shb at k
  rw [h] at k
  simp only [Bool.not_true, Bool.false_or, Bool.and_eq_true] at k
  obtain ⟨⟨⟨⟨k1, k2⟩, k3⟩, ⟨k4, k5⟩, k6⟩, k7⟩ := k
  exact ⟨⟨Nat.eq_of_beq_eq_true k1, Nat.eq_of_beq_eq_true k2, Nat.eq_of_beq_eq_true k3⟩, ⟨Nat.eq_of_beq_eq_true k4, Nat.eq_of_beq_eq_true k5, Nat.eq_of_beq_eq_true k6⟩, Nat.le_of_ble_eq_true k7⟩
/-- the ends are laid from the place i on -/
def shE (s : ps_S) (r : Nat) (ar : Nat → Nat) (l : List Nat) (i : Nat) : Prop := ∀ j, i ≤ j → j < l.length → (ps_a s (r + 1) j).toInt = (j + en ar (l.drop j) 1 : Nat)
/-- depths and quantifiers around of the parts that are wanted from p on -/
def shB (s : ps_S) (r : Nat) (ar : Nat → Nat) : Nat → List (Nat × Nat) → List Nat → Prop
  | _, [], _ => True
  | p, d :: S, t => (ps_a s (r + 2) p).toInt = d.1 ∧ (ps_a s (r + 3) p).toInt = d.2 ∧ shB s r ar (p + en ar t 1) S (t.drop (en ar t 1))
theorem shB_ext {s s' : ps_S} {r : Nat} {ar : Nat → Nat} : ∀ {S : List (Nat × Nat)} {p : Nat} {t : List Nat}, shB s r ar p S t → (∀ q, p ≤ q → ps_a s' (r + 2) q = ps_a s (r + 2) q ∧ ps_a s' (r + 3) q = ps_a s (r + 3) q) → shB s' r ar p S t
  | [], _, _, _, _ => trivial
  | d :: S, p, t, h, k => by
    obtain ⟨h1, h2, h3⟩ := h
    exact ⟨by rw [(k p (Nat.le_refl _)).1]; exact h1, by rw [(k p (Nat.le_refl _)).2]; exact h2, shB_ext h3 (fun q hq => k q (by omega))⟩
/-- a piece's parts are told, those behind stand -/
theorem shB_rep {s : ps_S} {r : Nat} {ar : Nat → Nat} {x : Nat × Nat} {S : List (Nat × Nat)} : ∀ {a : Nat} {p : Nat} {t : List Nat}, (∀ k, k < a → (ps_a s (r + 2) (p + en ar t k)).toInt = x.1 ∧ (ps_a s (r + 3) (p + en ar t k)).toInt = x.2) → shB s r ar (p + en ar t a) S (t.drop (en ar t a)) → shB s r ar p (List.replicate a x ++ S) t
  | 0, p, t, _, h => by
    rw [en_0, Nat.add_zero, List.drop_zero] at h
    exact h
  | a + 1, p, t, hk, h => by
    have e : ∀ k, en ar t (k + 1) = en ar t 1 + en ar (t.drop (en ar t 1)) k := fun k => by rw [Nat.add_comm k 1, en_add]
    have h0 := hk 0 (by omega)
    rw [en_0, Nat.add_zero] at h0
    refine ⟨h0.1, h0.2, shB_rep (a := a) (fun k hk2 => ?_) ?_⟩
    · have := hk (k + 1) (by omega)
      rw [e k, ← Nat.add_assoc] at this
      exact this
    · rw [e a, ← Nat.add_assoc] at h
      rw [List.drop_drop]
      exact h
/-- what a shape holds of a row: done so far D, then the stack S and the rest t -/
def shM (s : ps_S) (r : Nat) (c : List Nat) (D : List (Nat × Nat)) : Prop := D.length = c.length ∧ (∀ (i : Nat) (d : Nat × Nat), D[i]? = some d → (ps_a s (r + 2) i).toInt = d.1 ∧ (ps_a s (r + 3) i).toInt = d.2) ∧ (∀ m : Nat, (ps_i s r 3).toInt ≤ m ↔ ∀ d, d ∈ D → d.1 ≤ m) ∧ (∀ m : Nat, (ps_i s r 4).toInt ≤ m ↔ ∀ (i : Nat) (d : Nat × Nat) (x : Nat), D[i]? = some d → c[i]? = some x → d.2 + qb x ≤ m)
/-- a row is measured -/
def SH (s : ps_S) (r : Nat) (ar : Nat → Nat) (l : List Nat) : Prop := shE s r ar l 0 ∧ shM s r l (ly ar [(0, 0)] l)
theorem ly_len {σ : mSig} {ar : Nat → Nat} (hA : ArW σ ar) : ∀ {l : List Nat} {W : List Bool} {S : List (Nat × Nat)}, ws σ l W → S.length = W.length → (ly ar S l).length = l.length
  | [], W, S, h, hS => by
    have h : W = [] := h
    rw [h] at hS
    rw [List.eq_nil_of_length_eq_zero hS]
    rfl
  | c :: l, W, S, h, hS => by
    obtain ⟨b, W', ks, rfl, hk, h⟩ := ws_cons.mp h
    cases S with
    | nil => cases hS
    | cons d S =>
      show (ly ar _ l).length + 1 = l.length + 1
      rw [ly_len hA h (by rw [List.length_append, List.length_replicate, List.length_append, hA b c ks hk]; rw [List.length_cons, List.length_cons] at hS; omega)]
theorem ly_dep {ar : Nat → Nat} : ∀ {l : List Nat} {S : List (Nat × Nat)} {m : Nat}, (∀ d, d ∈ S → d.1 ≤ m ∧ d.2 ≤ m) → ∀ d, d ∈ ly ar S l → d.1 ≤ m + l.length ∧ d.2 ≤ m + l.length
  | [], [], _, _, d, h => by cases h
  | [], _ :: _, _, _, d, h => by cases h
  | _ :: _, [], _, _, d, h => by cases h
  | c :: l, x :: S, m, hS, d, h => by
    have hx := hS x List.mem_cons_self
    rcases List.mem_cons.mp h with h | h
    · rw [h, List.length_cons]
      omega
    · have := ly_dep (m := m + 1) (fun y hy => ?_) d h
      · rw [List.length_cons]
        omega
      · rcases List.mem_append.mp hy with hy | hy
        · have e := (List.mem_replicate.mp hy).2
          rw [e]
          have : qb c ≤ 1 := by unfold qb; split <;> omega
          exact ⟨by show x.1 + 1 ≤ m + 1; omega, by show x.2 + qb c ≤ m + 1; omega⟩
        · have := hS y (List.mem_cons_of_mem _ hy)
          omega
theorem drop_c {l : List Nat} {i c : Nat} (h : l[i]? = some c) : l.drop i = c :: l.drop (i + 1) := by
  have hl := (List.getElem?_eq_some_iff.mp h)
  obtain ⟨h1, h2⟩ := hl
  rw [List.drop_eq_getElem_cons h1, h2]
/-- cells of a shape -/
def CSh (r q : Nat) : Prop := r ≤ q ∧ q ≤ r + 3

-- ProofBench$Shape.endAt(I)I
theorem pl_104_0 {n : Nat} {r0 : Nat} {x1 : Int32} {s : ps_S} {Q : Option Value → ps_S → Prop} (h :
  (x1 < 0 →
    Q (some (.int (-1))) s) ∧
  (0 ≤ x1 →
    pl_nk (ps_is r0 6) (pl_nk (Nat.beq (ps_K (ps_c0 r0 0)).1 0) (((nI (ps_ln (ps_c0 r0 0))) ≤ x1 →
      Q (some (.int (-1))) s) ∧
    (x1 < (nI (ps_ln (ps_c0 r0 0))) →
      pl_nk (ps_is r0 6) (pl_nk (ps_ar (ps_c0 r0 0) 0) ((pm_in x1 (ps_ln (ps_c0 r0 0)) = true →
        Q (some (.int (ps_a s (ps_c0 r0 0) (Int32.toNatClampNeg x1)))) s)))))))) : pl_At (n + 1) 104 0 [(0, .ref r0), (1, .int x1)] [] s Q :=
  pl_wp_at (stops := []) (f := 19) h rfl

-- ProofBench$Shape.nestedAt(I)I
theorem pl_105_0 {n : Nat} {r0 : Nat} {x1 : Int32} {s : ps_S} {Q : Option Value → ps_S → Prop} (h :
  (x1 < 0 →
    Q (some (.int 0)) s) ∧
  (0 ≤ x1 →
    pl_nk (ps_is r0 6) (pl_nk (Nat.beq (ps_K (ps_c0 r0 2)).1 0) (((nI (ps_ln (ps_c0 r0 2))) ≤ x1 →
      Q (some (.int 0)) s) ∧
    (x1 < (nI (ps_ln (ps_c0 r0 2))) →
      pl_nk (ps_is r0 6) (pl_nk (ps_ar (ps_c0 r0 2) 0) ((pm_in x1 (ps_ln (ps_c0 r0 2)) = true →
        Q (some (.int (ps_a s (ps_c0 r0 2) (Int32.toNatClampNeg x1)))) s)))))))) : pl_At (n + 1) 105 0 [(0, .ref r0), (1, .int x1)] [] s Q :=
  pl_wp_at (stops := []) (f := 19) h rfl

-- ProofBench$Shape.measure(LProofBench$Row;LProofBench$Theory;)V
theorem pl_103_0 {n : Nat} {r0 : Nat} {r1 : Nat} {r2 : Nat} {s : ps_S} {Q : Option Value → ps_S → Prop} (h :
  pl_nk (ps_is r0 6) (pl_nk (ps_is r0 6) (pl_nk (ps_is r0 6) (pl_Cl n 183 [.ref (ps_c0 r0 1), .int 0, .int 0] (ps_ui (ps_ui s r0 3 0) r0 4 0) (ps_rV (fun s1 =>
    pl_nk (ps_is r0 6) (pl_Cl n 183 [.ref (ps_c0 r0 2), .int 0, .int 0] s1 (ps_rV (fun s2 =>
      pl_nk (ps_is r1 5) (pl_At n 103 35 [(0, .ref r0), (1, .ref r1), (2, .ref r2), (3, .int ((ps_i s2 r1 1) - 1))] [] s2 Q)))))))))) : pl_At (n + 1) 103 0 [(0, .ref r0), (1, .ref r1), (2, .ref r2)] [] s Q :=
  pl_wp_at (stops := [(35, [0, 1, 2, 3]), (55, [0, 1, 2, 3, 4, 5]), (92, [0, 1, 2, 3]), (176, [0, 1, 2, 3, 4, 5, 6, 7])]) (f := 23) h rfl

theorem pl_103_35 {n : Nat} {r0 : Nat} {r1 : Nat} {r2 : Nat} {x3 : Int32} {s : ps_S} {Q : Option Value → ps_S → Prop} (h :
  (x3 < 0 →
    pl_At n 103 92 [(0, .ref r0), (1, .ref r1), (2, .ref r2), (3, .int 0)] [] s Q) ∧
  (0 ≤ x3 →
    pl_Cl n 92 [.ref r1, .int x3] s (ps_rI (fun v1 s1 =>
      pl_Cl n 136 [.ref r2, .int v1] s1 (ps_rI (fun v2 s2 =>
        pl_At n 103 55 [(0, .ref r0), (1, .ref r1), (2, .ref r2), (3, .int x3), (4, .int (x3 + 1)), (5, .int v2)] [] s2 Q)))))) : pl_At (n + 1) 103 35 [(0, .ref r0), (1, .ref r1), (2, .ref r2), (3, .int x3)] [] s Q :=
  pl_wp_at (stops := [(35, [0, 1, 2, 3]), (55, [0, 1, 2, 3, 4, 5]), (92, [0, 1, 2, 3]), (176, [0, 1, 2, 3, 4, 5, 6, 7])]) (f := 16) h rfl

theorem pl_103_55 {n : Nat} {r0 : Nat} {r1 : Nat} {r2 : Nat} {x3 : Int32} {x4 : Int32} {x5 : Int32} {s : ps_S} {Q : Option Value → ps_S → Prop} (h :
  (x5 ≤ 0 →
    pl_nk (ps_is r0 6) (pl_Cl n 183 [.ref (ps_c0 r0 0), .int x3, .int x4] s (ps_rV (fun s1 =>
      pl_At n 103 35 [(0, .ref r0), (1, .ref r1), (2, .ref r2), (3, .int (x3 + (-1)))] [] s1 Q)))) ∧
  (0 < x5 →
    pl_Cl n 104 [.ref r0, .int x4] s (ps_rI (fun v2 s2 =>
      pl_At n 103 55 [(0, .ref r0), (1, .ref r1), (2, .ref r2), (3, .int x3), (4, .int v2), (5, .int (x5 + (-1)))] [] s2 Q)))) : pl_At (n + 1) 103 55 [(0, .ref r0), (1, .ref r1), (2, .ref r2), (3, .int x3), (4, .int x4), (5, .int x5)] [] s Q :=
  pl_wp_at (stops := [(35, [0, 1, 2, 3]), (55, [0, 1, 2, 3, 4, 5]), (92, [0, 1, 2, 3]), (176, [0, 1, 2, 3, 4, 5, 6, 7])]) (f := 17) h rfl

theorem pl_103_92 {n : Nat} {r0 : Nat} {r1 : Nat} {r2 : Nat} {x3 : Int32} {s : ps_S} {Q : Option Value → ps_S → Prop} (h :
  pl_nk (ps_is r1 5) (((ps_i s r1 1) ≤ x3 →
    Q none s) ∧
  (x3 < (ps_i s r1 1) →
    pl_nk (ps_is r0 6) (pl_Cl n 182 [.ref (ps_c0 r0 1), .int x3] s (ps_rI (fun v1 s1 =>
      pl_Cl n 105 [.ref r0, .int x3] s1 (ps_rI (fun v2 s2 =>
        pl_Cl n 92 [.ref r1, .int x3] s2 (ps_rI (fun v3 s3 =>
          pl_Cl n 184 [.int v3] s3 (ps_rI (fun v4 s4 =>
            (v4 = 0 →
              pl_nk (ps_is r0 6) (pl_nk (ps_is r0 6) (pl_nk (ps_is r0 6) (pl_nk (ps_is r0 6) (pl_Cl n 92 [.ref r1, .int x3] (ps_ui (ps_ui s4 r0 3 (if (ps_i s4 r0 3) < v1 then v1 else (ps_i s4 r0 3))) r0 4 (if (ps_i (ps_ui s4 r0 3 (if (ps_i s4 r0 3) < v1 then v1 else (ps_i s4 r0 3))) r0 4) < (v2 + 0) then (v2 + 0) else (ps_i (ps_ui s4 r0 3 (if (ps_i s4 r0 3) < v1 then v1 else (ps_i s4 r0 3))) r0 4))) (ps_rI (fun v5 s5 =>
                pl_Cl n 136 [.ref r2, .int v5] s5 (ps_rI (fun v6 s6 =>
                  pl_At n 103 176 [(0, .ref r0), (1, .ref r1), (2, .ref r2), (3, .int x3), (4, .int v1), (5, .int (v2 + 0)), (6, .int (x3 + 1)), (7, .int v6)] [] s6 Q))))))))) ∧
            (v4 ≠ 0 →
              pl_nk (ps_is r0 6) (pl_nk (ps_is r0 6) (pl_nk (ps_is r0 6) (pl_nk (ps_is r0 6) (pl_Cl n 92 [.ref r1, .int x3] (ps_ui (ps_ui s4 r0 3 (if (ps_i s4 r0 3) < v1 then v1 else (ps_i s4 r0 3))) r0 4 (if (ps_i (ps_ui s4 r0 3 (if (ps_i s4 r0 3) < v1 then v1 else (ps_i s4 r0 3))) r0 4) < (v2 + 1) then (v2 + 1) else (ps_i (ps_ui s4 r0 3 (if (ps_i s4 r0 3) < v1 then v1 else (ps_i s4 r0 3))) r0 4))) (ps_rI (fun v7 s7 =>
                pl_Cl n 136 [.ref r2, .int v7] s7 (ps_rI (fun v8 s8 =>
                  pl_At n 103 176 [(0, .ref r0), (1, .ref r1), (2, .ref r2), (3, .int x3), (4, .int v1), (5, .int (v2 + 1)), (6, .int (x3 + 1)), (7, .int v8)] [] s8 Q))))))))))))))))))))) : pl_At (n + 1) 103 92 [(0, .ref r0), (1, .ref r1), (2, .ref r2), (3, .int x3)] [] s Q :=
  pl_wp_at (stops := [(35, [0, 1, 2, 3]), (55, [0, 1, 2, 3, 4, 5]), (92, [0, 1, 2, 3]), (176, [0, 1, 2, 3, 4, 5, 6, 7])]) (f := 71) h rfl

theorem pl_103_176 {n : Nat} {r0 : Nat} {r1 : Nat} {r2 : Nat} {x3 : Int32} {x4 : Int32} {x5 : Int32} {x6 : Int32} {x7 : Int32} {s : ps_S} {Q : Option Value → ps_S → Prop} (h :
  (x7 ≤ 0 →
    pl_At n 103 92 [(0, .ref r0), (1, .ref r1), (2, .ref r2), (3, .int (x3 + 1))] [] s Q) ∧
  (0 < x7 →
    pl_nk (ps_is r0 6) (pl_Cl n 183 [.ref (ps_c0 r0 1), .int x6, .int (x4 + 1)] s (ps_rV (fun s1 =>
      pl_nk (ps_is r0 6) (pl_Cl n 183 [.ref (ps_c0 r0 2), .int x6, .int x5] s1 (ps_rV (fun s2 =>
        pl_Cl n 104 [.ref r0, .int x6] s2 (ps_rI (fun v3 s3 =>
          pl_At n 103 176 [(0, .ref r0), (1, .ref r1), (2, .ref r2), (3, .int x3), (4, .int x4), (5, .int x5), (6, .int v3), (7, .int (x7 + (-1)))] [] s3 Q)))))))))) : pl_At (n + 1) 103 176 [(0, .ref r0), (1, .ref r1), (2, .ref r2), (3, .int x3), (4, .int x4), (5, .int x5), (6, .int x6), (7, .int x7)] [] s Q :=
  pl_wp_at (stops := [(35, [0, 1, 2, 3]), (55, [0, 1, 2, 3, 4, 5]), (92, [0, 1, 2, 3]), (176, [0, 1, 2, 3, 4, 5, 6, 7])]) (f := 24) h rfl

-- ProofBenchModel.takes(I)I
theorem pl_218_0 {n : Nat} {x1 : Int32} {s : ps_S} {Q : Option Value → ps_S → Prop} (h :
  (x1 = 0 →
    Q (some (.int 0)) s) ∧
  (x1 ≠ 0 →
    (x1 < 40 →
      (x1 < 4 →
        Q (some (.int 2)) s) ∧
      (4 ≤ x1 →
        (x1 ≠ 6 →
          (6 ≤ x1 →
            (20 ≤ x1 →
              (pm_in ((((4 : Int32) * (ps_i s 1131 21)) + x1) - 20) 8 = true →
                Q (some (.int (ps_a s 1139 (Int32.toNatClampNeg ((((4 : Int32) * (ps_i s 1131 21)) + x1) - 20))))) s)) ∧
            (x1 < 20 →
              (pm_in ((((6 : Int32) * (ps_i s 1131 21)) + x1) - 10) 12 = true →
                Q (some (.int (ps_a s 1138 (Int32.toNatClampNeg ((((6 : Int32) * (ps_i s 1131 21)) + x1) - 10))))) s))) ∧
          (x1 < 6 →
            Q (some (.int 1)) s)) ∧
        (x1 = 6 →
          Q (some (.int 2)) s))) ∧
    (40 ≤ x1 →
      Q (some (.int 0)) s))) : pl_At (n + 1) 218 0 [(0, .ref 1131), (1, .int x1)] [] s Q :=
  pl_wp_at (stops := []) (f := 54) h rfl

-- ProofBenchModel.endOf(II)I
theorem pl_221_0 {n : Nat} {x1 : Int32} {x2 : Int32} {s : ps_S} {Q : Option Value → ps_S → Prop} (h :
  pl_At n 221 5 [(0, .ref 1131), (1, .int x1), (3, .int x2), (4, .int 1)] [] s Q) : pl_At (n + 1) 221 0 [(0, .ref 1131), (1, .int x1), (2, .int x2)] [] s Q :=
  pl_wp_at (stops := [(5, [0, 1, 3, 4])]) (f := 6) h rfl

theorem pl_221_5 {n : Nat} {x1 : Int32} {x3 : Int32} {x4 : Int32} {s : ps_S} {Q : Option Value → ps_S → Prop} (h :
  (x4 ≤ 0 →
    Q (some (.int x3)) s) ∧
  (0 < x4 →
    pl_Cl n 220 [.ref 1131, .int x1, .int x3] s (ps_rI (fun v1 s1 =>
      pl_Cl n 218 [.ref 1131, .int v1] s1 (ps_rI (fun v2 s2 =>
        pl_At n 221 5 [(0, .ref 1131), (1, .int x1), (3, .int (x3 + 1)), (4, .int (x4 + (v2 - 1)))] [] s2 Q)))))) : pl_At (n + 1) 221 5 [(0, .ref 1131), (1, .int x1), (3, .int x3), (4, .int x4)] [] s Q :=
  pl_wp_at (stops := [(5, [0, 1, 3, 4])]) (f := 19) h rfl

theorem en_pos {ar : Nat → Nat} {t : List Nat} {p : Nat} (h : 0 < t.length) (hp : 0 < p) : 0 < en ar t p := by
  cases t with
  | nil => rw [List.length_nil] at h; omega
  | cons c t =>
    obtain ⟨k, rfl⟩ : ∃ k, p = k + 1 := ⟨p - 1, by omega⟩
    rw [en_c]
    omega
theorem mx_if {a b : Int32} {m : Int} : ((if a < b then b else a) : Int32).toInt ≤ m ↔ a.toInt ≤ m ∧ b.toInt ≤ m := by
  by_cases h : a < b
  · have := xlt h
    rw [if_pos h]
    omega
  · have : ¬ a.toInt < b.toInt := fun z => h (Int32.lt_iff_toInt_lt.mpr z)
    rw [if_neg h]
    omega
theorem fs_182v {n r0 a : Nat} {x1 : Int32} {s : ps_S} {R : Int32 → ps_S → Prop} (hx : x1.toInt = a) (ha : a < ps_ln r0) (hl : ps_ln r0 ≤ 20000) (k : ∀ v : Int32, v = ps_a s r0 a → R v s) : pl_Cl n 182 [.ref r0, .int x1] s (ps_rI R) := fs_182 hx ha hl (k _ rfl)
theorem fs_92c {n r i c : Nat} {x1 : Int32} {s : ps_S} {l : List Nat} {R : Int32 → ps_S → Prop} (hr : ps_is r 5 = true) (W : cv_W s r l) (hx : x1.toInt = i) (hc : l[i]? = some c) (k : ∀ v : Int32, v.toInt = c → R v s) : pl_Cl n 92 [.ref r, .int x1] s (ps_rI R) := by
  obtain ⟨t1, t2, t3, -⟩ := cv_row hr
  have hl := (List.getElem?_eq_some_iff.mp hc).1
  exact fs_92 hr t1 (by rw [t1]; exact t2) W (fun v z => k v (z.1 ⟨by omega, by omega⟩ c (by rw [hx]; exact hc)))
theorem fs_136c {n th : Nat} {b : Bool} {p : Nat} {ks : List Bool} {g : tx_g} {x1 : Int32} {s : ps_S} {R : Int32 → ps_S → Prop} (hth : th = 2 ∨ th = 26) (H : cv_E s th g) (hk : kS (sg g) b p = some ks) (hx : x1.toInt = p) (k : ∀ v : Int32, v.toInt = (arh g p : Nat) → R v s) : pl_Cl n 136 [.ref th, .int x1] s (ps_rI R) := fs_136 hth hx (fun v z => k v (by rw [z]; exact cv_arh H hk))
theorem fs_104 {n r i : Nat} {x1 : Int32} {s : ps_S} {R : Int32 → ps_S → Prop} (hr : ps_is r 6 = true) (hx : x1.toInt = i) (hi : i < 40) (k : ∀ v : Int32, v = ps_a s (r + 1) i → R v s) : pl_Cl n 104 [.ref r, .int x1] s (ps_rI R) := by
  cases n with
  | zero => exact pl_At_0
  | succ n =>
  show pl_At (n + 1) 104 0 [(0, .ref r), (1, .int x1)] [] s (ps_rI R)
  obtain ⟨⟨e0, e1, e2⟩, ⟨l0, l1, l2⟩, -⟩ := shr hr
  have t40 : (nI (ps_ln (r + 1))).toInt = 40 := by rw [l0]; decide
  refine pl_104_0 ?_
  rw [e0]
  refine ⟨fun h1 => ?_, fun h1 => ?_⟩
  · have h1 : x1.toInt < (0 : Int) := xlt h1
    exfalso; omega
  · have h1 : (0 : Int) ≤ x1.toInt := xle h1
    refine pl_nk_i (fun nk6 => ?_)
    refine pl_nk_i (fun nk9 => ?_)
    refine ⟨fun h10 => ?_, fun h10 => ?_⟩
    · have h10 : (nI (ps_ln (r + 1))).toInt ≤ x1.toInt := xle h10
      exfalso; omega
    · have h10 : x1.toInt < (nI (ps_ln (r + 1))).toInt := xlt h10
      refine pl_nk_i (fun nk14 => ?_)
      refine pl_nk_i (fun nk18 => ?_)
      intro b18
      obtain ⟨b18, c18⟩ := pl_in b18
      rw [xtn hx]
      exact k _ rfl
theorem fs_105 {n r i : Nat} {x1 : Int32} {s : ps_S} {R : Int32 → ps_S → Prop} (hr : ps_is r 6 = true) (hx : x1.toInt = i) (hi : i < 40) (k : ∀ v : Int32, v = ps_a s (r + 3) i → R v s) : pl_Cl n 105 [.ref r, .int x1] s (ps_rI R) := by
  cases n with
  | zero => exact pl_At_0
  | succ n =>
  show pl_At (n + 1) 105 0 [(0, .ref r), (1, .int x1)] [] s (ps_rI R)
  obtain ⟨⟨e0, e1, e2⟩, ⟨l0, l1, l2⟩, -⟩ := shr hr
  have t40 : (nI (ps_ln (r + 3))).toInt = 40 := by rw [l2]; decide
  refine pl_105_0 ?_
  rw [e2]
  refine ⟨fun h1 => ?_, fun h1 => ?_⟩
  · have h1 : x1.toInt < (0 : Int) := xlt h1
    exfalso; omega
  · have h1 : (0 : Int) ≤ x1.toInt := xle h1
    refine pl_nk_i (fun nk6 => ?_)
    refine pl_nk_i (fun nk9 => ?_)
    refine ⟨fun h10 => ?_, fun h10 => ?_⟩
    · have h10 : (nI (ps_ln (r + 3))).toInt ≤ x1.toInt := xle h10
      exfalso; omega
    · have h10 : x1.toInt < (nI (ps_ln (r + 3))).toInt := xlt h10
      refine pl_nk_i (fun nk14 => ?_)
      refine pl_nk_i (fun nk18 => ?_)
      intro b18
      obtain ⟨b18, c18⟩ := pl_in b18
      rw [xtn hx]
      exact k _ rfl
section MEA
variable {r r1 th : Nat} {g : tx_g} {l : List Nat} {W : List Bool} {s0 : ps_S} {R : ps_S → Prop}
theorem fs_103_55 {n0 i c : Nat} {x3 : Int32} (hr : ps_is r 6 = true) (hA : ArW (sg g) (arh g)) (hw : ws (sg g) l W) (h40 : l.length ≤ 40) (hx : x3.toInt = i) (hc : l[i]? = some c) (kk : ∀ s', cfr (fun q => q = r + 1) s0 s' → shE s' r (arh g) l i → pl_At n0 103 35 [(0, .ref r), (1, .ref r1), (2, .ref th), (3, .int (x3 + (-1)))] [] s' (ps_rV R)) : ∀ (n : Nat) {s : ps_S} {x4 x5 : Int32} {p : Nat}, n ≤ n0 → x5.toInt = p → p ≤ arh g c → x4.toInt = (i + 1 + en (arh g) (l.drop (i + 1)) (arh g c - p) : Nat) → cfr (fun q => q = r + 1) s0 s → shE s r (arh g) l (i + 1) → pl_At n 103 55 [(0, .ref r), (1, .ref r1), (2, .ref th), (3, .int x3), (4, .int x4), (5, .int x5)] [] s (ps_rV R)
  | 0, _, _, _, _, _, _, _, _, _, _ => pl_At_0
  | n + 1, s, x4, x5, p, hn, h5, hp, h4, F, E => by
    obtain ⟨⟨e0, e1, e2⟩, ⟨l0, l1, l2⟩, -⟩ := shr hr
    have hil := (List.getElem?_eq_some_iff.mp hc).1
    obtain ⟨Wi, hWi⟩ := ws_drop i hw
    rw [drop_c hc] at hWi
    obtain ⟨b0, W', ks, -, hk, hws⟩ := ws_cons.mp hWi
    have ha := hA b0 c ks hk
    have hle := en_le hA (k := arh g c - p) hws (by rw [List.length_append]; omega)
    rw [List.length_drop] at hle
    refine pl_103_55 ?_
    rw [e0]
    refine ⟨fun h57 => ?_, fun h57 => ?_⟩
    · have h57 : x5.toInt ≤ (0 : Int) := xle h57
      refine pl_nk_i (fun nk75 => ?_)
      refine fs_183 (a := i) hx (by rw [l0]; omega) (by rw [l0]; decide) ?_
      have e : p = 0 := by omega
      subst e
      rw [Nat.sub_zero] at h4
      refine (kk _ (cfr_a F rfl) (fun j hj hjl => ?_)).le (by omega)
      rw [ps_a_ua]
      by_cases ej : j = i
      · rw [if_pos ⟨rfl, ej⟩, h4, ej, drop_c hc, en_c, Nat.zero_add]
        omega
      · rw [if_neg (fun z => ej z.2)]
        exact E j (by omega) hjl
    · have h57 : (0 : Int) < x5.toInt := xlt h57
      refine fs_104 hr h4 (by have hlt := en_lt hA (k := arh g c - p) hws (by rw [List.length_append]; omega); rw [List.length_drop] at hlt; omega) (fun v63 q89 => ?_)
      have hlt := en_lt hA (k := arh g c - p) hws (by rw [List.length_append]; omega)
      rw [List.length_drop] at hlt
      refine fs_103_55 hr hA hw h40 hx hc kk n (p := p - 1) (by omega) (xmin1n h5 (by omega)) (by omega) ?_ F E
      rw [q89, E _ (by omega) (by omega), show arh g c - (p - 1) = (arh g c - p) + 1 from by omega, en_add, List.drop_drop]
      omega
theorem fs_103_35 (hr : ps_is r 6 = true) (hr1 : ps_is r1 5 = true) (hth : th = 2 ∨ th = 26) (hd : r1 ≠ r + 1 ∧ r1 + 1 ≠ r + 1) (hw : ws (sg g) l W) (W0 : cv_W s0 r1 l) (H0 : cv_E s0 th g) (kk : ∀ n s', cfr (fun q => q = r + 1) s0 s' → shE s' r (arh g) l 0 → pl_At n 103 92 [(0, .ref r), (1, .ref r1), (2, .ref th), (3, .int 0)] [] s' (ps_rV R)) : ∀ (n : Nat) {s : ps_S} {x3 : Int32} {i : Nat}, x3.toInt = (i : Int) - 1 → i ≤ l.length → cfr (fun q => q = r + 1) s0 s → shE s r (arh g) l i → pl_At n 103 35 [(0, .ref r), (1, .ref r1), (2, .ref th), (3, .int x3)] [] s (ps_rV R)
  | 0, _, _, _, _, _, _, _ => pl_At_0
  | n + 1, s, x3, i, hx, hi, F, E => by
    have h50 := (shr hr).2.2
    have hA := arh_k H0.2.2.1 H0.2.2.2.1
    have W1 := cv_W_cfr W0 F hd.1 hd.2
    have H1 := cv_E_cfr H0 F (by omega) (by omega) (by omega) (by omega)
    refine pl_103_35 ?_
    refine ⟨fun h36 => ?_, fun h36 => ?_⟩
    · have h36 : x3.toInt < (0 : Int) := xlt h36
      have e : i = 0 := by omega
      subst e
      exact kk n s F E
    · have h36 : (0 : Int) ≤ x3.toInt := xle h36
      obtain ⟨c, hc⟩ : ∃ c, l[i - 1]? = some c := ⟨_, List.getElem?_eq_getElem (by omega)⟩
      have hx' : x3.toInt = (i - 1 : Nat) := by omega
      have h40 := W0.2.2.1
      obtain ⟨Wi, hWi⟩ := ws_drop (i - 1) hw
      rw [drop_c hc] at hWi
      obtain ⟨b0, W', ks, -, hk, hws⟩ := ws_cons.mp hWi
      refine fs_92c hr1 W1 hx' hc (fun v47 q47 => ?_)
      refine fs_136c hth H1 hk q47 (fun v50 q50 => ?_)
      refine fs_103_55 hr hA hw W0.2.2.1 hx' hc (fun s' F' E' => fs_103_35 hr hr1 hth hd hw W0 H0 kk n (xmin1 hx') (by omega) F' E') n (p := arh g c) (Nat.le_refl _) q50 (Nat.le_refl _) ?_ F ?_
      · rw [Nat.sub_self, en_0, xj1 hx' (by omega)]
      · rw [show i - 1 + 1 = i from by omega]
        exact E
/-- what holds at the second pass's head -/
def shK (s : ps_S) (r : Nat) (ar : Nat → Nat) (l : List Nat) (i : Nat) (S D : List (Nat × Nat)) : Prop := ly ar [(0, 0)] l = D ++ ly ar S (l.drop i) ∧ shB s r ar i S (l.drop i) ∧ shM s r (l.take i) D
theorem fs_103_176 {n0 i c : Nat} {d : Nat × Nat} {S D : List (Nat × Nat)} {W' ks : List Bool} {b0 : Bool} {x3 x4 x5 : Int32} (hr : ps_is r 6 = true) (hA : ArW (sg g) (arh g)) (hk : kS (sg g) b0 c = some ks) (hws : ws (sg g) (l.drop (i + 1)) (ks ++ W')) (h40 : l.length ≤ 40) (hil : i < l.length) (h4 : x4.toInt = d.1) (h5 : x5.toInt = (d.2 + qb c : Nat)) (h4b : d.1 ≤ 100) (hE : ∀ s', cfr (fun q => q = r ∨ q = r + 2 ∨ q = r + 3) s0 s' → shE s' r (arh g) l 0) (kk : ∀ s', cfr (fun q => q = r ∨ q = r + 2 ∨ q = r + 3) s0 s' → shB s' r (arh g) (i + 1) (List.replicate (arh g c) (d.1 + 1, d.2 + qb c) ++ S) (l.drop (i + 1)) → shM s' r (l.take (i + 1)) (D ++ [d]) → pl_At n0 103 92 [(0, .ref r), (1, .ref r1), (2, .ref th), (3, .int (x3 + 1))] [] s' (ps_rV R)) : ∀ (n : Nat) {s : ps_S} {x6 x7 : Int32} {p : Nat}, n ≤ n0 → x7.toInt = p → p ≤ arh g c → x6.toInt = (i + 1 + en (arh g) (l.drop (i + 1)) (arh g c - p) : Nat) → cfr (fun q => q = r ∨ q = r + 2 ∨ q = r + 3) s0 s → (∀ k, k < arh g c - p → (ps_a s (r + 2) (i + 1 + en (arh g) (l.drop (i + 1)) k)).toInt = (d.1 + 1 : Nat) ∧ (ps_a s (r + 3) (i + 1 + en (arh g) (l.drop (i + 1)) k)).toInt = (d.2 + qb c : Nat)) → shB s r (arh g) (i + 1 + en (arh g) (l.drop (i + 1)) (arh g c)) S ((l.drop (i + 1)).drop (en (arh g) (l.drop (i + 1)) (arh g c))) → shM s r (l.take (i + 1)) (D ++ [d]) → pl_At n 103 176 [(0, .ref r), (1, .ref r1), (2, .ref th), (3, .int x3), (4, .int x4), (5, .int x5), (6, .int x6), (7, .int x7)] [] s (ps_rV R)
  | 0, _, _, _, _, _, _, _, _, _, _, _, _ => pl_At_0
  | n + 1, s, x6, x7, p, hn, h7, hp, h6, F, hT, hB, hM => by
    obtain ⟨⟨e0, e1, e2⟩, ⟨l0, l1, l2⟩, -⟩ := shr hr
    have ha := hA b0 c ks hk
    have hD : (D ++ [d]).length = i + 1 := by rw [hM.1, List.length_take, Nat.min_eq_left (by omega)]
    refine pl_103_176 ?_
    rw [e1, e2]
    refine ⟨fun h178 => ?_, fun h178 => ?_⟩
    · have h178 : x7.toInt ≤ (0 : Int) := xle h178
      have e : p = 0 := by omega
      subst e
      rw [Nat.sub_zero] at hT
      exact (kk s F (shB_rep hT hB) hM).le (by omega)
    · have h178 : (0 : Int) < x7.toInt := xlt h178
      refine pl_nk_i (fun nk182 => ?_)
      have hlt := en_lt hA (k := arh g c - p) hws (by rw [List.length_append]; omega)
      rw [List.length_drop] at hlt
      refine fs_183 (a := i + 1 + en (arh g) (l.drop (i + 1)) (arh g c - p)) h6 (by rw [l1]; omega) (by rw [l1]; decide) ?_
      refine pl_nk_i (fun nk195 => ?_)
      refine fs_183 (a := i + 1 + en (arh g) (l.drop (i + 1)) (arh g c - p)) h6 (by rw [l2]; omega) (by rw [l2]; decide) ?_
      refine fs_104 hr h6 (by omega) (fun v208 q208 => ?_)
      have F2 : cfr (fun q => q = r ∨ q = r + 2 ∨ q = r + 3) s0 (ps_ua (ps_ua s (r + 2) (i + 1 + en (arh g) (l.drop (i + 1)) (arh g c - p)) (x4 + 1)) (r + 3) (i + 1 + en (arh g) (l.drop (i + 1)) (arh g c - p)) x5) := cfr_a (cfr_a F (Or.inr (Or.inl rfl))) (Or.inr (Or.inr rfl))
      refine fs_103_176 hr hA hk hws h40 hil h4 h5 h4b hE kk n (p := p - 1) (by omega) (xmin1n h7 (by omega)) (by omega) ?_ F2 (fun k hk2 => ?_) (shB_ext hB (fun q hq => ?_)) ?_
      · rw [q208, hE _ F2 _ (Nat.zero_le _) (by omega), show arh g c - (p - 1) = (arh g c - p) + 1 from by omega, en_add, List.drop_drop]
        omega
      · rw [ps_a_ua, if_neg (by omega), ps_a_ua, ps_a_ua]
        by_cases ek : i + 1 + en (arh g) (l.drop (i + 1)) k = i + 1 + en (arh g) (l.drop (i + 1)) (arh g c - p)
        · rw [if_pos ⟨rfl, ek⟩, if_pos ⟨rfl, ek⟩, xj1 h4 (by omega)]
          exact ⟨rfl, h5⟩
        · rw [if_neg (fun z => ek z.2), if_neg (fun z => ek z.2), ps_a_ua, if_neg (by omega)]
          refine hT k ?_
          rcases Nat.lt_or_ge k (arh g c - p) with z | z
          · exact z
          · exact absurd (by rw [show k = arh g c - p from by omega]) ek
      · have ep : en (arh g) (l.drop (i + 1)) (arh g c) = en (arh g) (l.drop (i + 1)) (arh g c - p) + en (arh g) ((l.drop (i + 1)).drop (en (arh g) (l.drop (i + 1)) (arh g c - p))) p := by rw [← en_add, show arh g c - p + p = arh g c from by omega]
        have hpos := en_pos (ar := arh g) (t := (l.drop (i + 1)).drop (en (arh g) (l.drop (i + 1)) (arh g c - p))) (p := p) (by rw [List.length_drop, List.length_drop]; omega) (by omega)
        rw [ps_a_ua, if_neg (by omega), ps_a_ua, if_neg (by omega), ps_a_ua, if_neg (by omega), ps_a_ua, if_neg (by omega)]
        exact ⟨rfl, rfl⟩
      · obtain ⟨m1, m2, m3, m4⟩ := hM
        refine ⟨m1, fun k y hk2 => ?_, m3, m4⟩
        have hkl := (List.getElem?_eq_some_iff.mp hk2).1
        rw [ps_a_ua, if_neg (by omega), ps_a_ua, if_neg (by omega), ps_a_ua, if_neg (by omega), ps_a_ua, if_neg (by omega)]
        exact m2 k y hk2
theorem shM_ext {s s' : ps_S} {r : Nat} {c : List Nat} {D : List (Nat × Nat)} (h : shM s r c D) (h1 : ∀ q, q < D.length → ps_a s' (r + 2) q = ps_a s (r + 2) q ∧ ps_a s' (r + 3) q = ps_a s (r + 3) q) (h3 : ps_i s' r 3 = ps_i s r 3) (h4 : ps_i s' r 4 = ps_i s r 4) : shM s' r c D := by
  obtain ⟨m1, m2, m3, m4⟩ := h
  refine ⟨m1, fun i d hd => ?_, by rw [h3]; exact m3, by rw [h4]; exact m4⟩
  have hl := (List.getElem?_eq_some_iff.mp hd).1
  rw [(h1 i hl).1, (h1 i hl).2]
  exact m2 i d hd
/-- one piece more -/
theorem shM_snoc {s : ps_S} {r i c : Nat} {l : List Nat} {D : List (Nat × Nat)} {d : Nat × Nat} {v1 v2 : Int32} (hc : l[i]? = some c) (h : shM s r (l.take i) D) (hi : i ≤ l.length) (h2 : (ps_a s (r + 2) i).toInt = d.1) (h3 : (ps_a s (r + 3) i).toInt = d.2) (e1 : v1.toInt = d.1) (e2 : v2.toInt = (d.2 + qb c : Nat)) : shM (ps_ui (ps_ui s r 3 (if (ps_i s r 3) < v1 then v1 else (ps_i s r 3))) r 4 (if (ps_i (ps_ui s r 3 (if (ps_i s r 3) < v1 then v1 else (ps_i s r 3))) r 4) < v2 then v2 else (ps_i (ps_ui s r 3 (if (ps_i s r 3) < v1 then v1 else (ps_i s r 3))) r 4))) r (l.take (i + 1)) (D ++ [d]) := by
  obtain ⟨m1, m2, m3, m4⟩ := h
  have hD : D.length = i := by rw [m1, List.length_take, Nat.min_eq_left hi]
  have hl := (List.getElem?_eq_some_iff.mp hc).1
  refine ⟨?_, fun k y hk => ?_, fun m => ?_, fun m => ?_⟩
  · rw [List.length_append, hD, List.length_singleton, List.length_take, Nat.min_eq_left (by omega)]
  · show (ps_a s (r + 2) k).toInt = y.1 ∧ (ps_a s (r + 3) k).toInt = y.2
    rcases Nat.lt_or_ge k D.length with z | z
    · rw [List.getElem?_append_left z] at hk
      exact m2 k y hk
    · have hkl := (List.getElem?_eq_some_iff.mp hk).1
      rw [List.length_append, List.length_singleton] at hkl
      rw [show k = D.length from by omega, List.getElem?_append_right (Nat.le_refl _), Nat.sub_self] at hk
      cases hk
      rw [show k = i from by omega]
      exact ⟨h2, h3⟩
  · rw [ps_i_ui, if_neg (by omega), ps_i_ui, if_pos ⟨rfl, rfl⟩, mx_if, m3, e1]
    constructor
    · rintro ⟨a, b⟩ y hy
      rcases List.mem_append.mp hy with hy | hy
      · exact a y hy
      · rw [List.mem_singleton] at hy
        rw [hy]
        omega
    · intro a
      have := a d (List.mem_append_right _ (List.mem_singleton.mpr rfl))
      exact ⟨fun y hy => a y (List.mem_append_left _ hy), by omega⟩
  · rw [ps_i_ui, if_pos ⟨rfl, rfl⟩, mx_if, ps_i_ui, if_neg (by omega), m4, e2]
    constructor
    · rintro ⟨a, b⟩ k y x hk hx
      rcases Nat.lt_or_ge k D.length with z | z
      · rw [List.getElem?_append_left z] at hk
        rw [List.getElem?_take, if_pos (by omega)] at hx
        exact a k y x hk (by rw [List.getElem?_take, if_pos (by omega)]; exact hx)
      · have hkl := (List.getElem?_eq_some_iff.mp hk).1
        rw [List.length_append, List.length_singleton] at hkl
        have ek : k = i := by omega
        rw [show k = D.length from by omega, List.getElem?_append_right (Nat.le_refl _), Nat.sub_self] at hk
        cases hk
        rw [List.getElem?_take, if_pos (by omega), ek, hc] at hx
        cases hx
        omega
    · intro a
      refine ⟨fun k y x hk hx => ?_, ?_⟩
      · have hkl := (List.getElem?_eq_some_iff.mp hk).1
        refine a k y x (by rw [List.getElem?_append_left hkl]; exact hk) ?_
        rw [List.getElem?_take, if_pos (by omega)] at hx ⊢
        exact hx
      · have := a i d c (by rw [List.getElem?_append_right (by omega), hD, Nat.sub_self]; rfl) (by rw [List.getElem?_take, if_pos (by omega)]; exact hc)
        omega
theorem fs_103_92 (hr : ps_is r 6 = true) (hr1 : ps_is r1 5 = true) (hth : th = 2 ∨ th = 26) (hd : (r1 < r ∨ r + 3 < r1) ∧ (r1 + 1 < r ∨ r + 3 < r1 + 1)) (hw : ws (sg g) l W) (W0 : cv_W s0 r1 l) (H0 : cv_E s0 th g) (E0 : shE s0 r (arh g) l 0) (k : ∀ s', cfr (fun q => q = r ∨ q = r + 2 ∨ q = r + 3) s0 s' → SH s' r (arh g) l → R s') : ∀ (n : Nat) {s : ps_S} {x3 : Int32} {i : Nat} {S D : List (Nat × Nat)} {Wi : List Bool}, x3.toInt = i → i ≤ l.length → cfr (fun q => q = r ∨ q = r + 2 ∨ q = r + 3) s0 s → ws (sg g) (l.drop i) Wi → S.length = Wi.length → shK s r (arh g) l i S D → pl_At n 103 92 [(0, .ref r), (1, .ref r1), (2, .ref th), (3, .int x3)] [] s (ps_rV R)
  | 0, _, _, _, _, _, _, _, _, _, _, _, _ => pl_At_0
  | n + 1, s, x3, i, S, D, Wi, hx, hi, F, hwi, hS, hK => by
    obtain ⟨⟨e0, e1, e2⟩, ⟨l0, l1, l2⟩, h50⟩ := shr hr
    have hA := arh_k H0.2.2.1 H0.2.2.2.1
    have W1 := cv_W_cfr W0 F (by omega) (by omega)
    have H1 := cv_E_cfr H0 F (by omega) (by omega) (by omega) (by omega)
    have h40 := W0.2.2.1
    have hsz := W1.1
    have hE : ∀ s', cfr (fun q => q = r ∨ q = r + 2 ∨ q = r + 3) s0 s' → shE s' r (arh g) l 0 := fun s' F' j a b => by
      rw [(F' (r + 1) (by omega)).2.2.2.1]
      exact E0 j a b
    refine pl_103_92 ?_
    rw [e1]
    refine pl_nk_i (fun nk94 => ?_)
    refine ⟨fun h97 => ?_, fun h97 => ?_⟩
    · have h97 : (ps_i s r1 1).toInt ≤ x3.toInt := xle h97
      have e : i = l.length := by omega
      subst e
      obtain ⟨k1, k2, k3⟩ := hK
      rw [List.drop_length] at k1
      rw [List.take_length] at k3
      refine k s F ⟨hE s F, ?_⟩
      have e2 : ly (arh g) S [] = [] := by cases S <;> rfl
      rw [k1, e2, List.append_nil]
      exact k3
    · have h97 : x3.toInt < (ps_i s r1 1).toInt := xlt h97
      refine pl_nk_i (fun nk101 => ?_)
      obtain ⟨c, hc⟩ : ∃ c, l[i]? = some c := ⟨_, List.getElem?_eq_getElem (by omega)⟩
      obtain ⟨k1, k2, k3⟩ := hK
      rw [drop_c hc] at hwi k1 k2
      obtain ⟨b0, W', ks, rfl, hk, hws⟩ := ws_cons.mp hwi
      obtain ⟨d, S, rfl⟩ : ∃ d S', S = d :: S' := by
        cases S with
        | nil => cases hS
        | cons d S' => exact ⟨d, S', rfl⟩
      obtain ⟨b1, b2, b3⟩ := k2
      have hdd := ly_dep (ar := arh g) (l := l) (S := [(0, 0)]) (m := 0) (fun y hy => by rw [List.mem_singleton] at hy; rw [hy]; omega) d (by rw [k1]; exact List.mem_append_right _ List.mem_cons_self)
      have ha := hA b0 c ks hk
      refine fs_182v (a := i) hx (by rw [l1]; omega) (by rw [l1]; decide) (fun v105 q105 => ?_)
      refine fs_105 hr hx (by omega) (fun v112 q112 => ?_)
      refine fs_92c hr1 W1 hx hc (fun v117 q117 => ?_)
      refine fs_184 (fun q120 => ?_) (fun q120 => ?_)
      · refine ⟨fun h123 => ?_, fun h123 => ?_⟩
        · exact absurd h123 (by decide)
        · refine pl_nk_i (fun nk136 => ?_)
          refine pl_nk_i (fun nk144 => ?_)
          refine pl_nk_i (fun nk149 => ?_)
          refine pl_nk_i (fun nk157 => ?_)
          refine fs_92c hr1 (cv_W_cfr W1 (cfr_i (cfr_i cfr_refl rfl) rfl : cfr (fun q => q = r) s _) (by omega) (by omega)) hx hc (fun v168 q168 => ?_)
          refine fs_136c hth (cv_E_cfr H1 (cfr_i (cfr_i cfr_refl rfl) rfl : cfr (fun q => q = r) s _) (by omega) (by omega) (by omega) (by omega)) hk q168 (fun v171 q171 => ?_)
          have ew : (v112 + 1).toInt = (d.2 + qb c : Nat) := by
            have e2 : v112.toInt = d.2 := by rw [q112]; exact b2
            have ez : qb c = 1 := by unfold qb; rw [if_pos (by omega)]
            have c1 : (1 : Int32).toInt = 1 := by decide
            have c0 : (0 : Int32).toInt = 0 := by decide
            rw [xIa (by rw [e2, c1]; omega) (by rw [e2, c1]; omega), e2, ez]
            rfl
          have e1' : v105.toInt = d.1 := by rw [q105]; exact b1
          have F2 := cfr_i (cfr_i F (Or.inl rfl) : cfr (fun q => q = r ∨ q = r + 2 ∨ q = r + 3) s0 (ps_ui s r 3 (if (ps_i s r 3) < v105 then v105 else (ps_i s r 3)))) (r := r) (f := 4) (v := (if (ps_i (ps_ui s r 3 (if (ps_i s r 3) < v105 then v105 else (ps_i s r 3))) r 4) < (v112 + 1) then (v112 + 1) else (ps_i (ps_ui s r 3 (if (ps_i s r 3) < v105 then v105 else (ps_i s r 3))) r 4))) (Or.inl rfl)
          have M2 := shM_snoc hc k3 hi b1 b2 e1' ew
          refine fs_103_176 (S := S) (D := D) hr hA hk hws h40 (by omega) e1' ew (by omega) hE (fun s' F' B' M' => fs_103_92 hr hr1 hth hd hw W0 H0 E0 k n (xj1 hx (by omega)) (by omega) F' hws (by rw [List.length_append, List.length_replicate, List.length_append, ha]; rw [List.length_cons, List.length_cons] at hS; omega) ⟨by rw [k1]; show D ++ d :: ly (arh g) _ (l.drop (i + 1)) = _; rw [List.append_assoc]; rfl, B', M'⟩) n (p := arh g c) (Nat.le_refl _) q171 (Nat.le_refl _) ?_ F2 (fun k2 hk2 => absurd hk2 (by omega)) ?_ M2
          · rw [Nat.sub_self, en_0, xj1 hx (by omega)]
          · rw [en_c, Nat.zero_add, Nat.add_comm 1 (en (arh g) (l.drop (i + 1)) (arh g c)), List.drop_succ_cons, Nat.add_comm (en (arh g) (l.drop (i + 1)) (arh g c)) 1] at b3
            exact shB_ext (s := s) (by rw [show i + 1 + en (arh g) (l.drop (i + 1)) (arh g c) = i + (1 + en (arh g) (l.drop (i + 1)) (arh g c)) from by omega]; exact b3) (fun q hq => ⟨rfl, rfl⟩)
      · refine ⟨fun h123 => ?_, fun h123 => ?_⟩
        · refine pl_nk_i (fun nk136 => ?_)
          refine pl_nk_i (fun nk144 => ?_)
          refine pl_nk_i (fun nk149 => ?_)
          refine pl_nk_i (fun nk157 => ?_)
          refine fs_92c hr1 (cv_W_cfr W1 (cfr_i (cfr_i cfr_refl rfl) rfl : cfr (fun q => q = r) s _) (by omega) (by omega)) hx hc (fun v168 q168 => ?_)
          refine fs_136c hth (cv_E_cfr H1 (cfr_i (cfr_i cfr_refl rfl) rfl : cfr (fun q => q = r) s _) (by omega) (by omega) (by omega) (by omega)) hk q168 (fun v171 q171 => ?_)
          have ew : (v112 + 0).toInt = (d.2 + qb c : Nat) := by
            have e2 : v112.toInt = d.2 := by rw [q112]; exact b2
            have ez : qb c = 0 := by unfold qb; rw [if_neg (by omega)]
            have c1 : (1 : Int32).toInt = 1 := by decide
            have c0 : (0 : Int32).toInt = 0 := by decide
            rw [xIa (by rw [e2, c0]; omega) (by rw [e2, c0]; omega), e2, ez]
            rfl
          have e1' : v105.toInt = d.1 := by rw [q105]; exact b1
          have F2 := cfr_i (cfr_i F (Or.inl rfl) : cfr (fun q => q = r ∨ q = r + 2 ∨ q = r + 3) s0 (ps_ui s r 3 (if (ps_i s r 3) < v105 then v105 else (ps_i s r 3)))) (r := r) (f := 4) (v := (if (ps_i (ps_ui s r 3 (if (ps_i s r 3) < v105 then v105 else (ps_i s r 3))) r 4) < (v112 + 0) then (v112 + 0) else (ps_i (ps_ui s r 3 (if (ps_i s r 3) < v105 then v105 else (ps_i s r 3))) r 4))) (Or.inl rfl)
          have M2 := shM_snoc hc k3 hi b1 b2 e1' ew
          refine fs_103_176 (S := S) (D := D) hr hA hk hws h40 (by omega) e1' ew (by omega) hE (fun s' F' B' M' => fs_103_92 hr hr1 hth hd hw W0 H0 E0 k n (xj1 hx (by omega)) (by omega) F' hws (by rw [List.length_append, List.length_replicate, List.length_append, ha]; rw [List.length_cons, List.length_cons] at hS; omega) ⟨by rw [k1]; show D ++ d :: ly (arh g) _ (l.drop (i + 1)) = _; rw [List.append_assoc]; rfl, B', M'⟩) n (p := arh g c) (Nat.le_refl _) q171 (Nat.le_refl _) ?_ F2 (fun k2 hk2 => absurd hk2 (by omega)) ?_ M2
          · rw [Nat.sub_self, en_0, xj1 hx (by omega)]
          · rw [en_c, Nat.zero_add, Nat.add_comm 1 (en (arh g) (l.drop (i + 1)) (arh g c)), List.drop_succ_cons, Nat.add_comm (en (arh g) (l.drop (i + 1)) (arh g c)) 1] at b3
            exact shB_ext (s := s) (by rw [show i + 1 + en (arh g) (l.drop (i + 1)) (arh g c) = i + (1 + en (arh g) (l.drop (i + 1)) (arh g c)) from by omega]; exact b3) (fun q hq => ⟨rfl, rfl⟩)
        · exact absurd h123 (by decide)
theorem fs_103 {n : Nat} {s : ps_S} (hr : ps_is r 6 = true) (hr1 : ps_is r1 5 = true) (hth : th = 2 ∨ th = 26) (hd : (r1 < r ∨ r + 3 < r1) ∧ (r1 + 1 < r ∨ r + 3 < r1 + 1)) (hw : ws (sg g) l W) (hW1 : W.length = 1 ∨ l = []) (W0 : cv_W s r1 l) (H0 : cv_E s th g) (k : ∀ s', SH s' r (arh g) l → cfr (CSh r) s s' → R s') : pl_Cl n 103 [.ref r, .ref r1, .ref th] s (ps_rV R) := by
  cases n with
  | zero => exact pl_At_0
  | succ n =>
  show pl_At (n + 1) 103 0 [(0, .ref r), (1, .ref r1), (2, .ref th)] [] s (ps_rV R)
  obtain ⟨⟨e0, e1, e2⟩, ⟨l0, l1, l2⟩, h50⟩ := shr hr
  have h40 := W0.2.2.1
  refine pl_103_0 ?_
  rw [e1, e2]
  refine pl_nk_i (fun nk2 => ?_)
  refine pl_nk_i (fun nk7 => ?_)
  refine pl_nk_i (fun nk11 => ?_)
  refine fs_183 (a := 0) rfl (by rw [l1]; decide) (by rw [l1]; decide) ?_
  refine pl_nk_i (fun nk20 => ?_)
  refine fs_183 (a := 0) rfl (by rw [l2]; decide) (by rw [l2]; decide) ?_
  refine pl_nk_i (fun nk29 => ?_)
  have F1 : cfr (CSh r) s (ps_ua (ps_ua (ps_ui (ps_ui s r 3 0) r 4 0) (r + 2) 0 0) (r + 3) 0 0) := cfr_a (cfr_a (cfr_i (cfr_i cfr_refl (by unfold CSh; omega)) (by unfold CSh; omega)) (by unfold CSh; omega)) (by unfold CSh; omega)
  have W1 := cv_W_cfr W0 F1 (by unfold CSh; omega) (by unfold CSh; omega)
  have H1 := cv_E_cfr H0 F1 (by unfold CSh; omega) (by unfold CSh; omega) (by unfold CSh; omega) (by unfold CSh; omega)
  generalize hq : (ps_ua (ps_ua (ps_ui (ps_ui s r 3 0) r 4 0) (r + 2) 0 0) (r + 3) 0 0) = s1 at F1 W1 H1 ⊢
  have i3 : (ps_i s1 r 3).toInt = 0 := by rw [← hq]; show (ps_i (ps_ui (ps_ui s r 3 0) r 4 0) r 3).toInt = 0; rw [ps_i_ui, if_neg (by omega), ps_i_ui, if_pos ⟨rfl, rfl⟩]; rfl
  have i4 : (ps_i s1 r 4).toInt = 0 := by rw [← hq]; show (ps_i (ps_ui (ps_ui s r 3 0) r 4 0) r 4).toInt = 0; rw [ps_i_ui, if_pos ⟨rfl, rfl⟩]; rfl
  have a2 : (ps_a s1 (r + 2) 0).toInt = 0 := by rw [← hq, ps_a_ua, if_neg (by omega), ps_a_ua, if_pos ⟨rfl, rfl⟩]; rfl
  have a3 : (ps_a s1 (r + 3) 0).toInt = 0 := by rw [← hq, ps_a_ua, if_pos ⟨rfl, rfl⟩]; rfl
  have hsz : (ps_i s1 r1 1).toInt = l.length := W1.1
  refine fs_103_35 hr hr1 hth ⟨by omega, by omega⟩ hw W1 H1 (fun n s2 F2 E2 => ?_) n (i := l.length) (by rw [xIs (by rw [hsz]; show -2147483648 ≤ ((l.length : Nat) : Int) - 1; omega) (by rw [hsz]; show ((l.length : Nat) : Int) - 1 < 2147483648; omega), hsz]; rfl) (Nat.le_refl _) cfr_refl (fun j a b => by omega)
  have F3 : cfr (CSh r) s1 s2 := cfr_mono F2 (fun q z => by unfold CSh; omega)
  have W2 := cv_W_cfr W1 F2 (by omega) (by omega)
  have H2 := cv_E_cfr H1 F2 (by omega) (by omega) (by omega) (by omega)
  have z0 := (F2 r (by omega)).1
  have z2 := (F2 (r + 2) (by omega)).2.2.2.1
  have z3 := (F2 (r + 3) (by omega)).2.2.2.1
  have M0 : shM s2 r (l.take 0) [] := ⟨rfl, (fun i d hd => by cases hd), (fun m => by rw [z0, i3]; exact ⟨fun _ d hd => (List.not_mem_nil hd).elim, fun _ => by omega⟩), (fun m => by rw [z0, i4]; exact ⟨fun _ i d x hd => (by cases hd), fun _ => by omega⟩)⟩
  rcases hW1 with hW1 | hW1
  · exact fs_103_92 hr hr1 hth hd hw W2 H2 E2 (fun s3 F4 Z => k s3 Z (cfr_tr (cfr_tr F1 F3) (cfr_mono F4 (fun q z => by unfold CSh; omega)))) n (i := 0) (S := [(0, 0)]) (D := []) (Wi := W) rfl (Nat.zero_le _) cfr_refl hw hW1.symm ⟨rfl, ⟨by rw [z2]; exact a2, by rw [z3]; exact a3, trivial⟩, M0⟩
  · subst hW1
    exact fs_103_92 hr hr1 hth hd hw W2 H2 E2 (fun s3 F4 Z => k s3 Z (cfr_tr (cfr_tr F1 F3) (cfr_mono F4 (fun q z => by unfold CSh; omega)))) n (i := 0) (S := []) (D := []) (Wi := []) rfl (Nat.zero_le _) cfr_refl rfl rfl ⟨rfl, trivial, M0⟩
end MEA

