/-! equations as rules -/
/-- the left side stands at a, the right side at b, its names stand in the left one -/
def RL (σ : mSig) (l l0 p q : List Nat) (a b : Int) : Prop := l = l0 ++ 6 :: (p ++ q) ∧ a = (l0.length : Int) + 1 ∧ b = (l0.length : Int) + 1 + (p.length : Int) ∧ ws σ p [false] ∧ ws σ q [false] ∧ ∀ x, x ∈ q → 40 ≤ x → x ∈ p
theorem ws_4 {σ : mSig} {l : List Nat} (h : ws σ (4 :: l) [true]) : ws σ l [true] := by
  obtain ⟨ks, hk, hw⟩ := ws_hd h
  rw [kS_f1 (Or.inl rfl)] at hk
  cases hk
  exact hw
theorem ws_6 {σ : mSig} {l : List Nat} (h : ws σ (6 :: l) [true]) : ∃ p q, l = p ++ q ∧ ws σ p [false] ∧ ws σ q [false] := by
  obtain ⟨ks, hk, hw⟩ := ws_hd h
  cases hk
  exact ws_split (W1 := [false]) (W2 := [false]) hw
theorem memsnoc {q1 : List Nat} {c : Nat} {P : Nat → Prop} (h : ∀ x, x ∈ q1 → P x) (hc : P c) : ∀ x, x ∈ q1 ++ [c] → P x := fun x hx => (List.mem_append.mp hx).elim (h x) (fun z => by rw [List.mem_singleton] at z; rw [z]; exact hc)
/-- what stands around a term in a term -/
theorem ws_ctx {σ : mSig} : ∀ {n1 n2 : List Nat} {W : List Bool}, (∀ b, b ∈ W → b = false) → ws σ (n1 ++ n2) W → ∃ W', (∀ b, b ∈ W' → b = false) ∧ ws σ n2 W' ∧ ∀ m, ws σ m W' → ws σ (n1 ++ m) W
  | [], n2, W, hW, h => ⟨W, hW, h, fun m hm => hm⟩
  | p :: n1, n2, W, hW, h => by
    obtain ⟨b, W', ks, rfl, hk, hw⟩ := ws_cons.mp (show ws σ (p :: (n1 ++ n2)) W from h)
    have hb : b = false := hW b List.mem_cons_self
    subst hb
    have hks : ∀ b, b ∈ ks → b = false := by
      rcases kS_cases hk with ⟨h1, -, -⟩ | ⟨h1, -, -⟩ | ⟨h1, -, -⟩ | ⟨h1, -, -⟩ | ⟨h1, -, -⟩ | ⟨-, -, -, rfl⟩ | ⟨-, -, -, rfl⟩
      · cases h1
      · cases h1
      · cases h1
      · cases h1
      · cases h1
      · exact fun b hb => (List.mem_replicate.mp hb).2
      · exact fun b hb => by cases hb
    obtain ⟨W2, h1, h2, h3⟩ := ws_ctx (n1 := n1) (n2 := n2) (W := ks ++ W') (fun b hb => (List.mem_append.mp hb).elim (hks b) (fun z => hW b (List.mem_cons_of_mem _ z))) hw
    exact ⟨W2, h1, h2, fun m hm => ws_c hk (h3 m hm)⟩
theorem ws_at {σ : mSig} {n1 n2 : List Nat} (h : ws σ (n1 ++ n2) [false]) (hn : 0 < (n2.length : Int)) : ∃ W0, ws σ n2 (false :: W0) ∧ ∀ m, ws σ m (false :: W0) → ws σ (n1 ++ m) [false] := by
  obtain ⟨W, h1, h2, h3⟩ := ws_ctx (fun b hb => by rw [List.mem_singleton] at hb; exact hb) h
  obtain ⟨c, n4, rfl⟩ := lpos hn
  obtain ⟨b, W', rfl⟩ := ws_W h2
  have : b = false := h1 b List.mem_cons_self
  subst this
  exact ⟨W', h2, h3⟩
theorem lsplit {α : Type} {l : List α} {i : Int} (h0 : 0 ≤ i) (h : i ≤ l.length) : ∃ a b, l = a ++ b ∧ i = (a.length : Int) := ⟨l.take i.toNat, l.drop i.toNat, (List.take_append_drop i.toNat l).symm, by rw [List.length_take]; omega⟩
theorem kS_x {σ : mSig} {b : Bool} {c : Nat} {ks : List Bool} (hσ : σ.1.1 ≤ 6 ∧ σ.1.2 ≤ 4) (h : kS σ b c = some ks) (hc : 40 ≤ c) : b = false ∧ ks = [] := by
  rcases kS_cases h with ⟨rfl, hp, rfl⟩ | ⟨rfl, hp, hp', rfl⟩ | ⟨rfl, hp, rfl⟩ | ⟨rfl, hp, rfl⟩ | ⟨rfl, hp, hp', rfl⟩ | ⟨rfl, hp, hp', rfl⟩ | ⟨rfl, hp, hp', rfl⟩
  · omega
  · omega
  · omega
  · omega
  · omega
  · omega
  · exact ⟨rfl, rfl⟩
/-- name b stands for a term of nl -/
def BS (σ : mSig) (nl : List Nat) (f t : Int) : Prop := ∃ a m d, nl = a ++ (m ++ d) ∧ f = (a.length : Int) ∧ t = (a.length : Int) + (m.length : Int) ∧ ws σ m [false]
def BA (σ : mSig) (nl : List Nat) (gf gt : Nat → Int32) : Prop := ∀ b : Nat, b < 20 → 0 ≤ (gf b).toInt → BS σ nl (gf b).toInt (gt b).toInt
theorem BA_0 {σ : mSig} {nl : List Nat} {gf gt : Nat → Int32} (h : ∀ i : Nat, i < 20 → (gf i).toInt = -1) : BA σ nl gf gt := fun b hb h0 => by have := h b hb; omega
theorem BA_put {σ : mSig} {nl : List Nat} {gf gt gf' gt' : Nat → Int32} {i : Nat} (h : BA σ nl gf gt) (hf : ∀ j, j ≠ i → gf' j = gf j) (ht : ∀ j, j ≠ i → gt' j = gt j) (hi : BS σ nl (gf' i).toInt (gt' i).toInt) : BA σ nl gf' gt' := fun b hb h0 => by
  by_cases e : b = i
  · rw [e]; exact hi
  · rw [hf b e] at h0 ⊢
    rw [ht b e]
    exact h b hb h0
/-- names of p1 are bound -/
def BB (gf : Nat → Int32) (p1 : List Nat) : Prop := ∀ x, x ∈ p1 → 40 ≤ x → 0 ≤ (gf (x - 40)).toInt
theorem BB_snoc {gf gf' : Nat → Int32} {p1 : List Nat} {c : Nat} (h : BB gf p1) (hg : ∀ j, 0 ≤ (gf j).toInt → 0 ≤ (gf' j).toInt) (hc : 40 ≤ c → 0 ≤ (gf' (c - 40)).toInt) : BB gf' (p1 ++ [c]) := memsnoc (P := fun x => 40 ≤ x → 0 ≤ (gf' (x - 40)).toInt) (fun x hx h4 => hg _ (h x hx h4)) hc
theorem MI_ax {σ : mSig} {g g5 g6 g7 g8 g9 ga gx : Nat → Int32} {b st th : Int} {k : Int32} {a : Int} (h : MI σ g g5 g6 g7 g8 g9 ga gx b st th) (h0 : 0 ≤ k.toInt) (hk : k.toInt < (g7 b.toNat).toInt) (h8 : k.toInt < 8) (ha : a = 21812 + 41 * (8 * b + k.toInt)) : FmC σ g a := by
  have := h.2.2.2.1 k.toInt.toNat (by omega) (by omega)
  rw [show ((k.toInt.toNat : Nat) : Int) = k.toInt from by omega] at this
  rw [ha]; exact this
theorem rp_len {σ : mSig} {q m : List Nat} {c : Nat} (h : (m.length : Int) ≤ 40 * (q.length : Int)) {r : List Nat} (hr : (r.length : Int) ≤ 40) : (((m ++ r).length : Nat) : Int) ≤ 40 * ((q ++ [c]).length : Int) := by
  rw [llen, l1c]
  omega
theorem memS {q1 p : List Nat} {c : Nat} (h : ∀ x, x ∈ q1 → 40 ≤ x → x ∈ p) (hc : c < 40 ∨ c ∈ p) : ∀ x, x ∈ q1 ++ [c] → 40 ≤ x → x ∈ p := fun x hx h4 => (List.mem_append.mp hx).elim (fun z => h x z h4) (fun z => by
  rw [List.mem_singleton] at z
  subst z
  rcases hc with q | q
  · omega
  · exact q)
theorem memD {p p1 p3 : List Nat} {c d : Nat} (h : p = p1 ++ d :: p3) (e : (c : Int) = d) : c ∈ p := by
  have : c = d := by omega
  rw [this, h]
  simp
theorem ws_4e {σ : mSig} {c : Nat} {l : List Nat} (e : (c : Int) = 4) (h : ws σ (c :: l) [true]) : ws σ l [true] := by
  have : c = 4 := by omega
  subst this
  exact ws_4 h
