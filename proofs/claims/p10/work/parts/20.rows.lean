/-! rows as lists of pieces: sorts (true: a formula, false: a term), levels (how many quantifiers stand around) -/
abbrev mSig : Type := (Nat × Nat) × ((Nat → Nat) × (Nat → Nat))
def kS (σ : mSig) (b : Bool) (p : Nat) : Option (List Bool) :=
  cond b (if p = 0 then some [] else if p < 4 then some [true, true] else if p < 6 then some [true] else if p = 6 then some [false, false] else if 10 ≤ p ∧ p < 10 + σ.1.1 then some (List.replicate (σ.2.1 (p - 10)) false) else none)
    (if 20 ≤ p ∧ p < 20 + σ.1.2 then some (List.replicate (σ.2.2 (p - 20)) false) else if 40 ≤ p ∧ p < 72 then some [] else none)
theorem kS_cases {σ : mSig} {b : Bool} {p : Nat} {ks : List Bool} (h : kS σ b p = some ks) : (b = true ∧ p = 0 ∧ ks = []) ∨ (b = true ∧ 1 ≤ p ∧ p ≤ 3 ∧ ks = [true, true]) ∨ (b = true ∧ (p = 4 ∨ p = 5) ∧ ks = [true]) ∨ (b = true ∧ p = 6 ∧ ks = [false, false]) ∨ (b = true ∧ 10 ≤ p ∧ p < 10 + σ.1.1 ∧ ks = List.replicate (σ.2.1 (p - 10)) false) ∨ (b = false ∧ 20 ≤ p ∧ p < 20 + σ.1.2 ∧ ks = List.replicate (σ.2.2 (p - 20)) false) ∨ (b = false ∧ 40 ≤ p ∧ p < 72 ∧ ks = []) := by
  unfold kS at h
  cases b
  · rw [cond_false] at h
    split at h
    · next q => cases h; simp [q]
    · split at h
      · next q => cases h; simp [q]
      · cases h
  · rw [cond_true] at h
    split at h
    · next q => cases h; simp [q]
    · next q0 =>
      split at h
      · next q => cases h; right; left; exact ⟨rfl, by omega, by omega, rfl⟩
      · next q1 =>
        split at h
        · next q => cases h; right; right; left; exact ⟨rfl, by omega, rfl⟩
        · split at h
          · next q => cases h; simp [q]
          · split at h
            · next q => cases h; right; right; right; right; left; exact ⟨rfl, q.1, q.2, rfl⟩
            · cases h
theorem kS_f0 {σ : mSig} : kS σ true 0 = some [] := rfl
theorem kS_f2 {σ : mSig} {p : Nat} (h : 1 ≤ p) (h' : p ≤ 3) : kS σ true p = some [true, true] := by
  unfold kS; rw [cond_true, if_neg (by omega), if_pos (by omega)]
theorem kS_f1 {σ : mSig} {p : Nat} (h : p = 4 ∨ p = 5) : kS σ true p = some [true] := by
  unfold kS; rw [cond_true, if_neg (by omega), if_neg (by omega), if_pos (by omega)]
theorem kS_f6 {σ : mSig} : kS σ true 6 = some [false, false] := rfl
theorem kS_fr {σ : mSig} {p : Nat} (h : 10 ≤ p) (h' : p < 10 + σ.1.1) : kS σ true p = some (List.replicate (σ.2.1 (p - 10)) false) := by
  unfold kS; rw [cond_true, if_neg (by omega), if_neg (by omega), if_neg (by omega), if_neg (by omega), if_pos ⟨h, h'⟩]
theorem kS_tf {σ : mSig} {p : Nat} (h : 20 ≤ p) (h' : p < 20 + σ.1.2) : kS σ false p = some (List.replicate (σ.2.2 (p - 20)) false) := by
  unfold kS; rw [cond_false, if_pos ⟨h, h'⟩]
theorem kS_tx {σ : mSig} {p : Nat} (hF : σ.1.2 ≤ 4) (h : 40 ≤ p) (h' : p < 72) : kS σ false p = some [] := by
  unfold kS; rw [cond_false, if_neg (by omega), if_pos ⟨h, h'⟩]
def ws (σ : mSig) : List Nat → List Bool → Prop
  | [], W => W = []
  | p :: l, W => match W with
    | [] => False
    | b :: W' => match kS σ b p with
      | some ks => ws σ l (ks ++ W')
      | none => False
theorem ws_cons {σ : mSig} {p : Nat} {l : List Nat} {W : List Bool} : ws σ (p :: l) W ↔ ∃ b W' ks, W = b :: W' ∧ kS σ b p = some ks ∧ ws σ l (ks ++ W') := by
  cases W with
  | nil => exact ⟨fun h => h.elim, fun ⟨_, _, _, h, _⟩ => by cases h⟩
  | cons b W' =>
    constructor
    · intro h
      unfold ws at h
      dsimp only at h
      split at h
      · next ks hk => exact ⟨b, W', ks, rfl, hk, h⟩
      · exact h.elim
    · rintro ⟨b', W'', ks, e, hk, h⟩
      cases e
      unfold ws
      dsimp only
      rw [hk]
      exact h
theorem ws_c {σ : mSig} {p : Nat} {l : List Nat} {b : Bool} {W' : List Bool} {ks : List Bool} (hk : kS σ b p = some ks) (h : ws σ l (ks ++ W')) : ws σ (p :: l) (b :: W') := ws_cons.mpr ⟨b, W', ks, rfl, hk, h⟩
theorem ws_app {σ : mSig} : ∀ {l1 l2 : List Nat} {W1 W2 : List Bool}, ws σ l1 W1 → ws σ l2 W2 → ws σ (l1 ++ l2) (W1 ++ W2)
  | [], l2, W1, W2, h1, h2 => by
    have : W1 = [] := h1
    subst this
    exact h2
  | p :: l1, l2, W1, W2, h1, h2 => by
    obtain ⟨b, W', ks, rfl, hk, h⟩ := ws_cons.mp h1
    show ws σ (p :: (l1 ++ l2)) (b :: (W' ++ W2))
    refine ws_c hk ?_
    rw [← List.append_assoc]
    exact ws_app h h2
theorem ws_split {σ : mSig} : ∀ {l : List Nat} {W1 W2 : List Bool}, ws σ l (W1 ++ W2) → ∃ l1 l2, l = l1 ++ l2 ∧ ws σ l1 W1 ∧ ws σ l2 W2
  | [], W1, W2, h => by
    have : W1 ++ W2 = [] := h
    obtain ⟨rfl, rfl⟩ := List.append_eq_nil_iff.mp this
    exact ⟨[], [], rfl, rfl, rfl⟩
  | p :: l, [], W2, h => ⟨[], p :: l, rfl, rfl, h⟩
  | p :: l, b :: W1, W2, h => by
    obtain ⟨b', W', ks, e, hk, h⟩ := ws_cons.mp h
    cases e
    have h : ws σ l (ks ++ (W1 ++ W2)) := h
    rw [← List.append_assoc] at h
    obtain ⟨l1, l2, rfl, h1, h2⟩ := ws_split h
    exact ⟨p :: l1, l2, rfl, ws_c hk h1, h2⟩
theorem ws_ne {σ : mSig} {l : List Nat} {b : Bool} {W : List Bool} (h : ws σ l (b :: W)) : ∃ p l', l = p :: l' := by
  cases l with
  | nil => cases h
  | cons p l' => exact ⟨p, l', rfl⟩
theorem ws_nil {σ : mSig} {l : List Nat} (h : ws σ l []) : l = [] := by
  cases l with
  | nil => rfl
  | cons p l' => exact h.elim
/-- with levels, none above c -/
def kL (p k : Nat) (ks : List Bool) : List (Bool × Nat) := ks.map (fun b => (b, if p = 4 ∨ p = 5 then k + 1 else k))
def wf (σ : mSig) (c : Nat) : List Nat → List (Bool × Nat) → Prop
  | [], W => W = []
  | p :: l, W => match W with
    | [] => False
    | w :: W' => w.2 ≤ c ∧ match kS σ w.1 p with
      | some ks => wf σ c l (kL p w.2 ks ++ W')
      | none => False
theorem wf_cons {σ : mSig} {c p : Nat} {l : List Nat} {W : List (Bool × Nat)} : wf σ c (p :: l) W ↔ ∃ b k W' ks, W = (b, k) :: W' ∧ k ≤ c ∧ kS σ b p = some ks ∧ wf σ c l (kL p k ks ++ W') := by
  cases W with
  | nil => exact ⟨fun h => h.elim, fun ⟨_, _, _, _, h, _⟩ => by cases h⟩
  | cons w W' =>
    obtain ⟨b, k⟩ := w
    constructor
    · intro h
      unfold wf at h
      dsimp only at h
      obtain ⟨h1, h⟩ := h
      split at h
      · next ks hk => exact ⟨b, k, W', ks, rfl, h1, hk, h⟩
      · exact h.elim
    · rintro ⟨b', k', W'', ks, e, h1, hk, h⟩
      cases e
      unfold wf
      dsimp only
      rw [hk]
      exact ⟨h1, h⟩
theorem wf_c {σ : mSig} {c p : Nat} {l : List Nat} {b : Bool} {k : Nat} {W' : List (Bool × Nat)} {ks : List Bool} (h1 : k ≤ c) (hk : kS σ b p = some ks) (h : wf σ c l (kL p k ks ++ W')) : wf σ c (p :: l) ((b, k) :: W') := wf_cons.mpr ⟨b, k, W', ks, rfl, h1, hk, h⟩
theorem kL_fst {p k : Nat} {ks : List Bool} : (kL p k ks).map Prod.fst = ks := by
  unfold kL
  rw [List.map_map]
  exact (List.map_congr_left (fun _ _ => rfl)).trans (List.map_id _)
theorem wf_ws {σ : mSig} {c : Nat} : ∀ {l : List Nat} {W : List (Bool × Nat)}, wf σ c l W → ws σ l (W.map Prod.fst)
  | [], W, h => by
    have : W = [] := h
    subst this
    rfl
  | p :: l, W, h => by
    obtain ⟨b, k, W', ks, rfl, h1, hk, h⟩ := wf_cons.mp h
    have := wf_ws h
    rw [List.map_append, kL_fst] at this
    exact ws_c hk this
theorem wf_app {σ : mSig} {c : Nat} : ∀ {l1 l2 : List Nat} {W1 W2 : List (Bool × Nat)}, wf σ c l1 W1 → wf σ c l2 W2 → wf σ c (l1 ++ l2) (W1 ++ W2)
  | [], l2, W1, W2, h1, h2 => by
    have : W1 = [] := h1
    subst this
    exact h2
  | p :: l1, l2, W1, W2, h1, h2 => by
    obtain ⟨b, k, W', ks, rfl, hc, hk, h⟩ := wf_cons.mp h1
    show wf σ c (p :: (l1 ++ l2)) ((b, k) :: (W' ++ W2))
    refine wf_c hc hk ?_
    rw [← List.append_assoc]
    exact wf_app h h2
theorem wf_split {σ : mSig} {c : Nat} : ∀ {l : List Nat} {W1 W2 : List (Bool × Nat)}, wf σ c l (W1 ++ W2) → ∃ l1 l2, l = l1 ++ l2 ∧ wf σ c l1 W1 ∧ wf σ c l2 W2
  | [], W1, W2, h => by
    have : W1 ++ W2 = [] := h
    obtain ⟨rfl, rfl⟩ := List.append_eq_nil_iff.mp this
    exact ⟨[], [], rfl, rfl, rfl⟩
  | p :: l, [], W2, h => ⟨[], p :: l, rfl, rfl, h⟩
  | p :: l, w :: W1, W2, h => by
    obtain ⟨b, k, W', ks, e, hc, hk, h⟩ := wf_cons.mp h
    cases e
    have h : wf σ c l (kL p k ks ++ (W1 ++ W2)) := h
    rw [← List.append_assoc] at h
    obtain ⟨l1, l2, rfl, h1, h2⟩ := wf_split h
    exact ⟨p :: l1, l2, rfl, wf_c hc hk h1, h2⟩
/-- how many quantifiers a row can have -/
def qn : List Nat → Nat
  | [] => 0
  | p :: l => (if p = 4 ∨ p = 5 then 1 else 0) + qn l
def qw : List (Bool × Nat) → Int
  | [] => 0
  | w :: W => cond w.1 (5 - 2 * (w.2 : Int)) 0 + qw W
theorem qw_app : ∀ {W1 W2 : List (Bool × Nat)}, qw (W1 ++ W2) = qw W1 + qw W2
  | [], W2 => by show qw W2 = 0 + qw W2; omega
  | w :: W1, W2 => by
    show cond w.1 (5 - 2 * (w.2 : Int)) 0 + qw (W1 ++ W2) = cond w.1 (5 - 2 * (w.2 : Int)) 0 + qw W1 + qw W2
    rw [qw_app]; omega
theorem qw_f {p k n : Nat} : qw (kL p k (List.replicate n false)) = 0 := by
  induction n with
  | zero => rfl
  | succ n ih =>
    show (0 : Int) + qw (kL p k (List.replicate n false)) = 0
    rw [ih]; rfl
theorem wf_q {σ : mSig} : ∀ {l : List Nat} {W : List (Bool × Nat)}, wf σ 5 l W → 7 * (qn l : Int) ≤ 5 * (l.length : Int) + qw W
  | [], W, h => by
    have : W = [] := h
    subst this
    exact Int.le_refl _
  | p :: l, W, h => by
    obtain ⟨b, k, W', ks, rfl, hc, hk, h⟩ := wf_cons.mp h
    have ih := wf_q h
    rw [qw_app] at ih
    rw [List.length_cons]
    show 7 * (((if p = 4 ∨ p = 5 then 1 else 0) + qn l : Nat) : Int) ≤ 5 * ((l.length + 1 : Nat) : Int) + (cond b (5 - 2 * (k : Int)) 0 + qw W')
    rcases kS_cases hk with ⟨rfl, hp, rfl⟩ | ⟨rfl, hp, hp', rfl⟩ | ⟨rfl, hp, rfl⟩ | ⟨rfl, hp, rfl⟩ | ⟨rfl, hp, hp', rfl⟩ | ⟨rfl, hp, hp', rfl⟩ | ⟨rfl, hp, hp', rfl⟩
    · rw [if_neg (by omega)]; have : qw (kL p k []) = 0 := rfl; rw [cond_true]; omega
    · rw [if_neg (by omega)]
      have : qw (kL p k [true, true]) = (5 - 2 * (k : Int)) + ((5 - 2 * (k : Int)) + 0) := by
        unfold kL; rw [List.map_cons, List.map_cons, if_neg (by omega)]; rfl
      rw [cond_true]; omega
    · rw [if_pos hp]
      have : qw (kL p k [true]) = (5 - 2 * ((k + 1 : Nat) : Int)) + 0 := by
        unfold kL; rw [List.map_cons, if_pos hp]; rfl
      rw [cond_true]; omega
    · rw [if_neg (by omega)]; have : qw (kL p k [false, false]) = 0 := rfl; rw [cond_true]; omega
    · rw [if_neg (by omega)]; rw [qw_f] at ih; rw [cond_true]; omega
    · rw [if_neg (by omega)]; rw [qw_f] at ih; rw [cond_false]; omega
    · rw [if_neg (by omega)]; have : qw (kL p k []) = 0 := rfl; rw [cond_false]; omega
theorem qn_app : ∀ {l1 l2 : List Nat}, qn (l1 ++ l2) = qn l1 + qn l2
  | [], l2 => by show qn l2 = 0 + qn l2; omega
  | p :: l1, l2 => by
    show (if p = 4 ∨ p = 5 then 1 else 0) + qn (l1 ++ l2) = (if p = 4 ∨ p = 5 then 1 else 0) + qn l1 + qn l2
    rw [qn_app]; omega
theorem wf_29 {σ : mSig} {l : List Nat} {b : Bool} (h : wf σ 5 l [(b, 0)]) (hl : l.length ≤ 40) : qn l ≤ 29 := by
  have := wf_q h
  have e : qw [(b, 0)] ≤ 5 := by cases b <;> decide
  omega
/-- pieces put in the place of leaves -/
def rp (σ : mSig) : List Nat → List Nat → Prop
  | [], m => m = []
  | p :: l, m => ∃ r m', m = r ++ m' ∧ (r = [p] ∨ (40 ≤ p ∧ p < 72 ∧ ws σ r [false])) ∧ rp σ l m'
theorem rp_snoc {σ : mSig} : ∀ {l m r : List Nat} {p : Nat}, rp σ l m → (r = [p] ∨ (40 ≤ p ∧ p < 72 ∧ ws σ r [false])) → rp σ (l ++ [p]) (m ++ r)
  | [], m, r, p, h, hr => by
    have : m = [] := h
    subst this
    exact ⟨r, [], by simp, hr, rfl⟩
  | q :: l, m, r, p, h, hr => by
    obtain ⟨r', m', rfl, h1, h2⟩ := h
    exact ⟨r', m' ++ r, by rw [List.append_assoc], h1, rp_snoc h2 hr⟩
theorem rp_ws {σ : mSig} (hσ : σ.1.1 ≤ 6 ∧ σ.1.2 ≤ 4) : ∀ {l m : List Nat} {W : List Bool}, rp σ l m → ws σ l W → ws σ m W
  | [], m, W, h, hw => by
    have : m = [] := h
    subst this
    exact hw
  | p :: l, m, W, h, hw => by
    obtain ⟨r, m', rfl, h1, h2⟩ := h
    obtain ⟨b, W', ks, rfl, hk, hw⟩ := ws_cons.mp hw
    have ih := rp_ws hσ h2 hw
    rcases h1 with rfl | ⟨h3, h4, h5⟩
    · exact ws_c hk ih
    · rcases kS_cases hk with ⟨rfl, hp, rfl⟩ | ⟨rfl, hp, hp', rfl⟩ | ⟨rfl, hp, rfl⟩ | ⟨rfl, hp, rfl⟩ | ⟨rfl, hp, hp', rfl⟩ | ⟨rfl, hp, hp', rfl⟩ | ⟨rfl, hp, hp', rfl⟩
      · omega
      · omega
      · omega
      · omega
      · omega
      · omega
      · exact ws_app h5 ih
