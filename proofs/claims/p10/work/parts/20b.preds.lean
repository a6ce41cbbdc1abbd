/-- the signature told in bank b -/
def Sg (g5 g6 g8 g9 : Nat → Int32) (b : Int) (σ : mSig) : Prop := 0 ≤ b ∧ b ≤ 1 ∧ (g5 b.toNat).toInt = σ.1.1 ∧ σ.1.1 ≤ 6 ∧ (g6 b.toNat).toInt = σ.1.2 ∧ σ.1.2 ≤ 4 ∧ (∀ r, r < σ.1.1 → (g8 (6 * b.toNat + r)).toInt = σ.2.1 r ∧ σ.2.1 r ≤ 2) ∧ (∀ f, f < σ.1.2 → (g9 (4 * b.toNat + f)).toInt = σ.2.2 f ∧ σ.2.2 f ≤ 2)
theorem Sg_σ {g5 g6 g8 g9 : Nat → Int32} {b : Int} {σ : mSig} (h : Sg g5 g6 g8 g9 b σ) : σ.1.1 ≤ 6 ∧ σ.1.2 ≤ 4 := ⟨h.2.2.2.1, h.2.2.2.2.2.1⟩
theorem Sg_r {g5 g6 g8 g9 : Nat → Int32} {b : Int} {σ : mSig} (h : Sg g5 g6 g8 g9 b σ) {r : Nat} {i : Int32} (hr : r < σ.1.1) (hi : i.toInt = 6 * b + r) : (g8 (Int32.toNatClampNeg i)).toInt = σ.2.1 r ∧ σ.2.1 r ≤ 2 := by
  have e : Int32.toNatClampNeg i = 6 * b.toNat + r := by
    show i.toInt.toNat = _
    have := h.1
    omega
  rw [e]
  exact h.2.2.2.2.2.2.1 r hr
theorem Sg_f {g5 g6 g8 g9 : Nat → Int32} {b : Int} {σ : mSig} (h : Sg g5 g6 g8 g9 b σ) {r : Nat} {i : Int32} (hr : r < σ.1.2) (hi : i.toInt = 4 * b + r) : (g9 (Int32.toNatClampNeg i)).toInt = σ.2.2 r ∧ σ.2.2 r ≤ 2 := by
  have e : Int32.toNatClampNeg i = 4 * b.toNat + r := by
    show i.toInt.toNat = _
    have := h.1
    omega
  rw [e]
  exact h.2.2.2.2.2.2.2 r hr
/-- the row at a holds the pieces l -/
def Rw (g : Nat → Int32) (a : Int) (l : List Nat) : Prop := a % 41 = 0 ∧ 0 ≤ a ∧ a < 27306 ∧ l.length ≤ 40 ∧ (g a.toNat).toInt = l.length ∧ ∀ (l1 : List Nat) (p : Nat) (l2 : List Nat), l = l1 ++ p :: l2 → (g (a.toNat + 1 + l1.length)).toInt = p
theorem Rw_n {g : Nat → Int32} {a : Int32} {l : List Nat} (h : Rw g a.toInt l) : (g (Int32.toNatClampNeg a)).toInt = l.length := h.2.2.2.2.1
theorem Rw_p {g : Nat → Int32} {a i : Int32} {l l1 l2 : List Nat} {p : Nat} (h : Rw g a.toInt l) (e : l = l1 ++ p :: l2) (hi : i.toInt = l1.length) : (g (Int32.toNatClampNeg (a + 1 + i))).toInt = p := by
  obtain ⟨h1, h2, h3, h4, h5, h6⟩ := h
  have hl : l1.length < 40 := by
    rw [e, List.length_append, List.length_cons] at h4
    omega
  have e1 : (a + 1).toInt = a.toInt + 1 := by rw [xI_add (by rw [xone]; omega) (by rw [xone]; omega), xone]
  have e2 : (a + 1 + i).toInt = a.toInt + 1 + i.toInt := by rw [xI_add (by omega) (by omega), e1]
  have e3 : Int32.toNatClampNeg (a + 1 + i) = a.toInt.toNat + 1 + l1.length := by
    show (a + 1 + i).toInt.toNat = _
    omega
  rw [e3]
  exact h6 l1 p l2 e
/-- what was made -/
def Md (g : Nat → Int32) (n : Int) (l : List Nat) : Prop := n = l.length ∧ l.length ≤ 90000 ∧ ∀ (l1 : List Nat) (p : Nat) (l2 : List Nat), l = l1 ++ p :: l2 → l1.length < 260 → (g l1.length).toInt = p
theorem kS_num {σ : mSig} {b : Bool} {p : Nat} {ks : List Bool} (h : kS σ b p = some ks) : (p = 0 ∧ ks.length = 0) ∨ (1 ≤ p ∧ p ≤ 3 ∧ ks.length = 2) ∨ ((p = 4 ∨ p = 5) ∧ ks.length = 1) ∨ (p = 6 ∧ ks.length = 2) ∨ (10 ≤ p ∧ p < 10 + σ.1.1 ∧ ks.length = σ.2.1 (p - 10)) ∨ (20 ≤ p ∧ p < 20 + σ.1.2 ∧ ks.length = σ.2.2 (p - 20)) ∨ (40 ≤ p ∧ p < 72 ∧ ks.length = 0) := by
  rcases kS_cases h with ⟨rfl, hp, rfl⟩ | ⟨rfl, hp, hp', rfl⟩ | ⟨rfl, hp, rfl⟩ | ⟨rfl, hp, rfl⟩ | ⟨rfl, hp, hp', rfl⟩ | ⟨rfl, hp, hp', rfl⟩ | ⟨rfl, hp, hp', rfl⟩
  · left; exact ⟨hp, rfl⟩
  · right; left; exact ⟨hp, hp', rfl⟩
  · right; right; left; exact ⟨hp, rfl⟩
  · right; right; right; left; exact ⟨hp, rfl⟩
  · right; right; right; right; left; exact ⟨hp, hp', by rw [List.length_replicate]⟩
  · right; right; right; right; right; left; exact ⟨hp, hp', by rw [List.length_replicate]⟩
  · right; right; right; right; right; right; exact ⟨hp, hp', rfl⟩
theorem kS_le {g5 g6 g8 g9 : Nat → Int32} {bk : Int} {σ : mSig} {b : Bool} {p : Nat} {ks : List Bool} (hS : Sg g5 g6 g8 g9 bk σ) (h : kS σ b p = some ks) : ks.length ≤ 2 := by
  rcases kS_num h with h | h | h | h | h | h | h
  · omega
  · omega
  · omega
  · omega
  · have := (hS.2.2.2.2.2.2.1 (p - 10) (by omega)).2; omega
  · have := (hS.2.2.2.2.2.2.2 (p - 20) (by omega)).2; omega
  · omega
theorem kS_72 {σ : mSig} {b : Bool} {p : Nat} {ks : List Bool} (hσ : σ.1.1 ≤ 6 ∧ σ.1.2 ≤ 4) (h : kS σ b p = some ks) : p < 72 := by
  rcases kS_num h with h | h | h | h | h | h | h <;> omega
theorem ws_le {σ : mSig} : ∀ {l : List Nat} {W : List Bool}, ws σ l W → W.length ≤ l.length
  | [], W, h => by
    have : W = [] := h
    subst this
    exact Nat.le_refl _
  | p :: l, W, h => by
    obtain ⟨b, W', ks, rfl, hk, h⟩ := ws_cons.mp h
    have := ws_le h
    rw [List.length_append] at this
    rw [List.length_cons, List.length_cons]
    omega
theorem lpos {α : Type} {W : List α} (h : 0 < (W.length : Int)) : ∃ b W', W = b :: W' := by
  cases W with
  | nil => rw [List.length_nil] at h; omega
  | cons b W' => exact ⟨b, W', rfl⟩
theorem lnil {α : Type} {W : List α} (h : (W.length : Int) ≤ 0) : W = [] := by
  cases W with
  | nil => rfl
  | cons b W' => rw [List.length_cons] at h; omega
theorem lcat {α : Type} (p : List α) (c : α) (q : List α) : p ++ c :: q = (p ++ [c]) ++ q := by simp
theorem llen {α : Type} {l1 l2 : List α} : ((l1 ++ l2).length : Int) = l1.length + l2.length := by rw [List.length_append]; omega
theorem llenc {α : Type} {c : α} {l2 : List α} : ((c :: l2).length : Int) = l2.length + 1 := by rw [List.length_cons]; omega
theorem ua_ne {s : ps_S} {r i r' j : Nat} {v : Int32} (h : j ≠ i) : ps_a (ps_ua s r i v) r' j = ps_a s r' j := by rw [ps_a_ua, if_neg (fun z => h z.2)]
theorem ua_eq {s : ps_S} {r i : Nat} {v : Int32} : ps_a (ps_ua s r i v) r i = v := by rw [ps_a_ua, if_pos ⟨rfl, rfl⟩]
theorem Rw_copy {g g0 : Nat → Int32} {a b : Int} {l : List Nat} (h : Rw g0 a l) (h1 : b % 41 = 0) (h2 : 0 ≤ b) (h3 : b < 27306) (hj : ∀ j : Nat, j ≤ l.length → g (b.toNat + j) = g0 (a.toNat + j)) : Rw g b l := by
  obtain ⟨-, -, -, h4, h5, h6⟩ := h
  refine ⟨h1, h2, h3, h4, ?_, fun l1 p l2 e => ?_⟩
  · have := hj 0 (by omega)
    rw [Nat.add_zero, Nat.add_zero] at this
    rw [this]; exact h5
  · have := hj (1 + l1.length) (by rw [e, List.length_append, List.length_cons]; omega)
    rw [← Nat.add_assoc, ← Nat.add_assoc] at this
    rw [this]; exact h6 l1 p l2 e
theorem Rw_keep {g g' : Nat → Int32} {a : Int} {l : List Nat} (h : Rw g a l) (hj : ∀ i : Nat, a ≤ i → (i : Int) < a + 41 → g' i = g i) : Rw g' a l := by
  refine Rw_copy h h.1 h.2.1 h.2.2.1 (fun j hj' => hj _ ?_ ?_)
  · have := h.2.1; omega
  · have := h.2.1; have := h.2.2.2.1; omega
theorem Md_nil {g : Nat → Int32} {n : Int} (h : n = 0) : Md g n [] := ⟨h, by decide, fun l1 p l2 e => by simp at e⟩
theorem Md_mk {g g' : Nat → Int32} {n n' : Int} {ml : List Nat} {c : Nat} (h : Md g n ml) (hl : ml.length < 90000) (hn : n' = n + 1) (h1 : ∀ i, i < ml.length → i < 260 → g' i = g i) (h2 : ml.length < 260 → (g' ml.length).toInt = c) : Md g' n' (ml ++ [c]) := by
  obtain ⟨a1, a2, a3⟩ := h
  refine ⟨by rw [hn, a1, llen]; rfl, by rw [List.length_append]; show ml.length + 1 ≤ _; omega, fun l1 p l2 e hl1 => ?_⟩
  rcases List.append_eq_append_iff.mp e with ⟨r, e1, e2⟩ | ⟨r, e1, e2⟩
  · cases r with
    | nil =>
      rw [List.append_nil] at e1
      rw [List.nil_append] at e2
      cases e2
      rw [e1]; rw [e1] at hl1
      exact h2 hl1
    | cons q r =>
      rw [List.cons_append] at e2
      have := congrArg List.length e2
      simp at this
  · cases r with
    | nil =>
      rw [List.append_nil] at e1
      rw [List.nil_append] at e2
      cases e2
      rw [← e1]; rw [← e1] at hl1
      exact h2 hl1
    | cons q r =>
      rw [List.cons_append] at e2
      cases e2
      rw [h1 l1.length (by rw [e1, List.length_append, List.length_cons]; omega) hl1]
      exact a3 l1 p r e1 hl1
theorem Md_make {s : ps_S} {ml : List Nat} {c : Nat} {v : Int32} (h : Md (ps_a s 1149) (ps_i s 1131 34).toInt ml) (hc : v.toInt = c) (hl : ml.length < 90000) : Md (ps_a (ps_ua s 1149 (Int32.toNatClampNeg (ps_i s 1131 34)) v) 1149) ((ps_i s 1131 34) + 1).toInt (ml ++ [c]) := by
  have e : Int32.toNatClampNeg (ps_i s 1131 34) = ml.length := by
    show (ps_i s 1131 34).toInt.toNat = _
    rw [h.1]; omega
  have h1 := h.1
  refine Md_mk h hl (by rw [xIa (by rw [xone]; omega) (by rw [xone]; omega), xone]) (fun i hi _ => ua_ne (by omega)) (fun _ => ?_)
  rw [e, ua_eq]
  exact hc
theorem Md_make' {s : ps_S} {ml : List Nat} {c : Nat} (h : Md (ps_a s 1149) (ps_i s 1131 34).toInt ml) (hl : ml.length < 90000) (h2 : 260 ≤ (ps_i s 1131 34).toInt) : Md (ps_a s 1149) ((ps_i s 1131 34) + 1).toInt (ml ++ [c]) := by
  have h1 := h.1
  exact Md_mk h hl (by rw [xIa (by rw [xone]; omega) (by rw [xone]; omega), xone]) (fun i hi _ => rfl) (fun z => by omega)
theorem Md_p {g : Nat → Int32} {n : Int} {l1 l2 : List Nat} {p : Nat} {i : Int32} (h : Md g n (l1 ++ p :: l2)) (hi : i.toInt = l1.length) (hl : l1.length < 260) : (g (Int32.toNatClampNeg i)).toInt = p := by
  have e : Int32.toNatClampNeg i = l1.length := by
    show i.toInt.toNat = _
    omega
  rw [e]
  exact h.2.2 l1 p l2 rfl hl
theorem l1c {α : Type} {c : α} {l : List α} : ((l ++ [c]).length : Int) = l.length + 1 := by rw [List.length_append]; rfl
theorem Rw_made {g gm : Nat → Int32} {b n : Int} {l : List Nat} (h : Md gm n l) (hl : l.length ≤ 40) (h1 : b % 41 = 0) (h2 : 0 ≤ b) (h3 : b < 27306) (hn : (g b.toNat).toInt = (l.length : Int)) (hj : ∀ j : Nat, j < l.length → g (b.toNat + 1 + j) = gm j) : Rw g b l := by
  refine ⟨h1, h2, h3, hl, hn, fun l1 p l2 e => ?_⟩
  have : l1.length < l.length := by rw [e, List.length_append, List.length_cons]; omega
  rw [hj _ this]
  exact h.2.2 l1 p l2 e (by omega)
theorem kS_rep {σ : mSig} {b : Bool} {p : Nat} {ks : List Bool} (h : kS σ b p = some ks) : ∃ bb, ks = List.replicate ks.length bb := by
  rcases kS_cases h with ⟨rfl, hp, rfl⟩ | ⟨rfl, hp, hp', rfl⟩ | ⟨rfl, hp, rfl⟩ | ⟨rfl, hp, rfl⟩ | ⟨rfl, hp, hp', rfl⟩ | ⟨rfl, hp, hp', rfl⟩ | ⟨rfl, hp, hp', rfl⟩
  · exact ⟨true, rfl⟩
  · exact ⟨true, rfl⟩
  · exact ⟨true, rfl⟩
  · exact ⟨false, rfl⟩
  · exact ⟨false, by rw [List.length_replicate]⟩
  · exact ⟨false, by rw [List.length_replicate]⟩
  · exact ⟨true, rfl⟩
theorem kL_rep {p k n : Nat} {bb : Bool} : kL p k (List.replicate n bb) = List.replicate n (bb, if p = 4 ∨ p = 5 then k + 1 else k) := by
  unfold kL
  rw [List.map_replicate]
/-- the stack of a walk from the left: what is still wanted, level by level -/
def Stk (gl gb : Nat → Int32) : Nat → Int → List (Bool × Nat) → Prop
  | 0, k, W => k = 0 ∧ W = []
  | n + 1, k, W => ∃ (c : Nat) (b : Bool) (W' : List (Bool × Nat)), (gl n).toInt = c ∧ 0 ≤ k ∧ W = List.replicate c (b, k.toNat) ++ W' ∧ Stk gl gb n (k - if gb n = 0 then 0 else 1) W'
theorem Stk_nn {gl gb : Nat → Int32} : ∀ {n : Nat} {k : Int} {W : List (Bool × Nat)}, Stk gl gb n k W → 0 ≤ k
  | 0, k, W, h => by rw [h.1]; omega
  | n + 1, k, W, ⟨_, _, _, _, h, _, _⟩ => h
theorem Stk_ext {gl gb gl' gb' : Nat → Int32} : ∀ {n : Nat} {k : Int} {W : List (Bool × Nat)}, (∀ i, i < n → gl' i = gl i ∧ gb' i = gb i) → Stk gl gb n k W → Stk gl' gb' n k W
  | 0, k, W, _, h => h
  | n + 1, k, W, he, ⟨c, b, W', h1, h2, h3, h4⟩ => by
    obtain ⟨e1, e2⟩ := he n (by omega)
    exact ⟨c, b, W', by rw [e1]; exact h1, h2, h3, by rw [e2]; exact Stk_ext (fun i hi => he i (by omega)) h4⟩
/-- what isRow knows at a piece -/
def R17 (σ : mSig) (gl gb : Nat → Int32) (n k : Int) (m2 ml : List Nat) (b : Bool) : Prop := (m2 = [] ∧ wf σ 5 ml [(b, 0)]) ∨ ∃ (b0 : Bool) (W : List (Bool × Nat)), Stk gl gb n.toNat k W ∧ ws σ m2 (b0 :: W.map Prod.fst) ∧ (wf σ 5 m2 ((b0, k.toNat) :: W) → wf σ 5 ml [(b, 0)])
def R110 (σ : mSig) (gl gb : Nat → Int32) (n k : Int) (m3 ml : List Nat) (b : Bool) : Prop := ∃ W : List (Bool × Nat), Stk gl gb n.toNat k W ∧ ws σ m3 (W.map Prod.fst) ∧ (wf σ 5 m3 W → wf σ 5 ml [(b, 0)])
theorem R17_0 {σ : mSig} {gl gb : Nat → Int32} {ml : List Nat} {b : Bool} (h : ws σ ml [b]) : R17 σ gl gb 0 0 ml ml b := Or.inr ⟨b, [], ⟨rfl, rfl⟩, h, fun z => z⟩
theorem R17_nil {σ : mSig} {gl gb : Nat → Int32} {n k : Int} {ml : List Nat} {b : Bool} (h : R17 σ gl gb n k [] ml b) : wf σ 5 ml [(b, 0)] := by
  rcases h with h | ⟨b0, W, h1, h2, h3⟩
  · exact h.2
  · cases h2
/-- a piece taken: its children on the stack -/
theorem R17_c {σ : mSig} {gl gb gl' gb' : Nat → Int32} {n k k' : Int} {c : Nat} {m3 ml : List Nat} {b : Bool} (h : R17 σ gl gb n k (c :: m3) ml b) (hn : 0 ≤ n) (hk : k ≤ 5) (hb : k' = k + if c = 4 ∨ c = 5 then 1 else 0) (h5 : gb' n.toNat = 0 ↔ ¬ (c = 4 ∨ c = 5)) (he : ∀ i, i < n.toNat → gl' i = gl i ∧ gb' i = gb i) (hl : ∀ b0 ks, kS σ b0 c = some ks → (gl' n.toNat).toInt = ks.length) : R110 σ gl' gb' (n + 1) k' m3 ml b := by
  rcases h with h | ⟨b0, W, h1, h2, h3⟩
  · cases h.1
  · obtain ⟨b1, W1, ks, e1, hks, hw⟩ := ws_cons.mp h2
    cases e1
    obtain ⟨bb, hbb⟩ := kS_rep hks
    have hk0 := Stk_nn h1
    have hlev : (if c = 4 ∨ c = 5 then k.toNat + 1 else k.toNat) = k'.toNat := by
      split at hb
      · next z => rw [if_pos z]; omega
      · next z => rw [if_neg z]; omega
    refine ⟨List.replicate ks.length (bb, k'.toNat) ++ W, ?_, ?_, fun z => h3 (wf_c (by omega) hks ?_)⟩
    · rw [show (n + 1).toNat = n.toNat + 1 from by omega]
      refine ⟨ks.length, bb, W, hl _ _ hks, ?_, rfl, ?_⟩
      · split at hb <;> omega
      · have : (k' - if gb' n.toNat = 0 then 0 else 1) = k := by
          by_cases z : c = 4 ∨ c = 5
          · rw [if_neg (fun q => (h5.mp q) z), hb, if_pos z]; omega
          · rw [if_pos (h5.mpr z), hb, if_neg z]; omega
        rw [this]
        exact Stk_ext he h1
    · rw [List.map_append, List.map_replicate]
      rw [hbb] at hw
      exact hw
    · rw [hbb, kL_rep, hlev]
      exact z
theorem R110_pop {σ : mSig} {gl gb : Nat → Int32} {n k k' : Int} {m3 ml : List Nat} {b : Bool} (h : R110 σ gl gb n k m3 ml b) (hn : 0 < n) (h0 : (gl (n - 1).toNat).toInt = 0) (hk : k' = k - if gb (n - 1).toNat = 0 then 0 else 1) : R110 σ gl gb (n - 1) k' m3 ml b := by
  obtain ⟨W, h1, h2, h3⟩ := h
  rw [show n.toNat = (n - 1).toNat + 1 from by omega] at h1
  obtain ⟨c, b0, W', e1, e2, e3, e4⟩ := h1
  rw [h0] at e1
  have : c = 0 := by omega
  subst this
  rw [List.replicate_zero, List.nil_append] at e3
  subst e3
  exact ⟨W, by rw [hk]; exact e4, h2, h3⟩
theorem R110_0 {σ : mSig} {gl gb gl' gb' : Nat → Int32} {k : Int} {m3 ml : List Nat} {b : Bool} (h : R110 σ gl gb 0 k m3 ml b) : R17 σ gl' gb' 0 k m3 ml b := by
  obtain ⟨W, h1, h2, h3⟩ := h
  obtain ⟨e1, e2⟩ : k = 0 ∧ W = [] := h1
  subst e2
  have := ws_nil h2
  subst this
  exact Or.inl ⟨rfl, h3 rfl⟩
theorem R110_t {σ : mSig} {gl gb gl' : Nat → Int32} {n k : Int} {m3 ml : List Nat} {b : Bool} (h : R110 σ gl gb n k m3 ml b) (hn : 0 < n) (h0 : (gl (n - 1).toNat).toInt ≠ 0) (he : ∀ i, i < (n - 1).toNat → gl' i = gl i) (hd : (gl' (n - 1).toNat).toInt = (gl (n - 1).toNat).toInt - 1) : R17 σ gl' gb n k m3 ml b := by
  obtain ⟨W, h1, h2, h3⟩ := h
  rw [show n.toNat = (n - 1).toNat + 1 from by omega] at h1
  obtain ⟨c, b0, W', e1, e2, e3, e4⟩ := h1
  obtain ⟨c', rfl⟩ : ∃ c', c = c' + 1 := ⟨c - 1, by omega⟩
  rw [List.replicate_succ, List.cons_append] at e3
  subst e3
  refine Or.inr ⟨b0, List.replicate c' (b0, k.toNat) ++ W', ?_, h2, h3⟩
  rw [show n.toNat = (n - 1).toNat + 1 from by omega]
  exact ⟨c', b0, W', by rw [hd, e1]; omega, e2, rfl, Stk_ext (fun i hi => ⟨he i hi, rfl⟩) e4⟩
theorem ws_hd {σ : mSig} {c : Nat} {l : List Nat} {b : Bool} {W : List Bool} (h : ws σ (c :: l) (b :: W)) : ∃ ks, kS σ b c = some ks ∧ ws σ l (ks ++ W) := by
  unfold ws at h
  dsimp only at h
  split at h
  · next ks hk => exact ⟨ks, hk, h⟩
  · exact h.elim
