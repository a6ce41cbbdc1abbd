/-! TEXTS, as pure functions of their bytes T 0 .. T (n - 1) -/
def tx_B (c : Nat) : Bool := Nat.beq c 32 || Nat.beq c 10
def tx_L (c : Nat) : Bool := Nat.ble 97 c && Nat.ble c 122
def tx_D (c : Nat) : Bool := Nat.ble 48 c && Nat.ble c 57
/-- from p on, the first place where P fails or the text ends -/
def tx_run (P : Nat → Bool) (T : Nat → Nat) (n : Nat) : Nat → Nat → Nat
  | 0, p => p
  | f + 1, p => cond (Nat.blt p n && P (T p)) (tx_run P T n f (p + 1)) p
def tx_to (P : Nat → Bool) (T : Nat → Nat) (n p : Nat) : Nat := tx_run P T n (n - p) p
theorem tx_blt {a b : Nat} (h : a < b) : Nat.blt a b = true := Nat.ble_eq_true_of_le h
theorem tx_to_go {P : Nat → Bool} {T : Nat → Nat} {n p : Nat} (h : p < n) (hP : P (T p) = true) : tx_to P T n p = tx_to P T n (p + 1) := by
  unfold tx_to
  obtain ⟨k, hk⟩ : ∃ k, n - p = k + 1 := ⟨n - p - 1, by omega⟩
  rw [hk, show n - (p + 1) = k from by omega]
  show cond (Nat.blt p n && P (T p)) _ _ = _
  rw [hP, tx_blt h]
  rfl
theorem tx_to_end {P : Nat → Bool} {T : Nat → Nat} {n p : Nat} (h : n ≤ p ∨ P (T p) = false) : tx_to P T n p = p := by
  unfold tx_to
  cases e : n - p with
  | zero => rfl
  | succ k =>
    show cond (Nat.blt p n && P (T p)) _ _ = _
    rcases h with h | h
    · omega
    · rw [h, Bool.and_false]
      rfl
theorem tx_run_ge {P : Nat → Bool} {T : Nat → Nat} {n : Nat} : ∀ (f p : Nat), p ≤ tx_run P T n f p
  | 0, p => Nat.le_refl _
  | f + 1, p => by
    show p ≤ cond (Nat.blt p n && P (T p)) (tx_run P T n f (p + 1)) p
    cases Nat.blt p n && P (T p)
    · exact Nat.le_refl _
    · exact Nat.le_trans (Nat.le_succ _) (tx_run_ge f (p + 1))
theorem tx_to_ge {P : Nat → Bool} {T : Nat → Nat} {n p : Nat} : p ≤ tx_to P T n p := tx_run_ge _ _
theorem tx_run_le {P : Nat → Bool} {T : Nat → Nat} {n : Nat} : ∀ (f p : Nat), p ≤ n → tx_run P T n f p ≤ n
  | 0, p, h => h
  | f + 1, p, h => by
    show cond (Nat.blt p n && P (T p)) (tx_run P T n f (p + 1)) p ≤ n
    cases e : Nat.blt p n && P (T p)
    · exact h
    · rw [Bool.and_eq_true] at e
      exact tx_run_le f (p + 1) (Nat.le_of_ble_eq_true e.1)
theorem tx_to_le {P : Nat → Bool} {T : Nat → Nat} {n p : Nat} (h : p ≤ n) : tx_to P T n p ≤ n := tx_run_le _ _ h
/-- a loop over the places that have P, up to the first that hasn't -/
theorem tx_to_is {P : Nat → Bool} {T : Nat → Nat} {n p q : Nat} (h : p ≤ q) (hP : ∀ k, p ≤ k → k < q → k < n ∧ P (T k) = true) (he : n ≤ q ∨ P (T q) = false) : tx_to P T n p = q := by
  obtain ⟨k, rfl⟩ : ∃ k, q = p + k := ⟨q - p, by omega⟩
  induction k generalizing p with
  | zero => exact tx_to_end he
  | succ k ih =>
    obtain ⟨h1, h2⟩ := hP p (Nat.le_refl _) (by omega)
    rw [tx_to_go h1 h2, ih (p := p + 1) (by omega) (fun j a b => hP j (by omega) (by omega)) (by rw [show p + 1 + k = p + (k + 1) from by omega]; exact he)]
    omega
/-- the letters from a on, up to b -/
def tx_wd (T : Nat → Nat) (a : Nat) : Nat → List Nat
  | 0 => []
  | k + 1 => tx_wd T a k ++ [T (a + k)]
theorem tx_wd_len {T : Nat → Nat} {a : Nat} : ∀ {k : Nat}, (tx_wd T a k).length = k
  | 0 => rfl
  | k + 1 => by
    show (tx_wd T a k ++ [T (a + k)]).length = _
    rw [List.length_append, tx_wd_len]
    rfl
theorem tx_wd_cons {T : Nat → Nat} {a : Nat} : ∀ {k : Nat}, tx_wd T a (k + 1) = T a :: tx_wd T (a + 1) k
  | 0 => rfl
  | k + 1 => by
    show tx_wd T a (k + 1) ++ [T (a + (k + 1))] = T a :: (tx_wd T (a + 1) k ++ [T (a + 1 + k)])
    rw [tx_wd_cons, show a + (k + 1) = a + 1 + k from by omega]
    rfl
theorem tx_wd_mem {T : Nat → Nat} {a c : Nat} : ∀ {k : Nat}, c ∈ tx_wd T a k → ∃ j, j < k ∧ c = T (a + j)
  | 0, h => by cases h
  | k + 1, h => by
    rcases List.mem_append.mp h with h | h
    · obtain ⟨j, h1, h2⟩ := tx_wd_mem h
      exact ⟨j, by omega, h2⟩
    · rw [List.mem_singleton] at h
      exact ⟨k, by omega, h⟩
/-- a word's number to the base b, a letter's sign less o -/
def tx_en (b o : Nat) (l : List Nat) : Nat := l.foldl (fun x c => x * b + (c - o)) 0
theorem tx_en_snoc {b o c : Nat} {l : List Nat} : tx_en b o (l ++ [c]) = tx_en b o l * b + (c - o) := by
  unfold tx_en
  rw [List.foldl_append]
  rfl
/-- the same from the last letter on -/
def tx_er (b o : Nat) : List Nat → Nat
  | [] => 0
  | c :: l => tx_er b o l * b + (c - o)
theorem tx_er_snoc {b o c : Nat} : ∀ {l : List Nat}, tx_en b o (l.reverse) = tx_er b o l
  | [] => rfl
  | c :: l => by
    rw [List.reverse_cons, tx_en_snoc, tx_er_snoc (c := c)]
    rfl
theorem tx_en_er {b o : Nat} {l : List Nat} : tx_en b o l = tx_er b o l.reverse := by
  rw [← tx_er_snoc (c := 0), List.reverse_reverse]
def tx_ok (l : List Nat) : Prop := ∀ c, c ∈ l → 97 ≤ c ∧ c ≤ 122
theorem tx_er_inj {b o : Nat} (ho : o < 97) (hb : 122 < b + o) : ∀ {l l' : List Nat}, tx_ok l → tx_ok l' → tx_er b o l = tx_er b o l' → l = l'
  | [], [], _, _, _ => rfl
  | [], c :: l', _, h', e => by
    have := h' c List.mem_cons_self
    have e : 0 = tx_er b o l' * b + (c - o) := e
    omega
  | c :: l, [], h, _, e => by
    have := h c List.mem_cons_self
    have e : tx_er b o l * b + (c - o) = 0 := e
    omega
  | c :: l, c' :: l', h, h', e => by
    have h1 := h c List.mem_cons_self
    have h2 := h' c' List.mem_cons_self
    have e : tx_er b o l * b + (c - o) = tx_er b o l' * b + (c' - o) := e
    have hm : (c - o) % b = (c' - o) % b := by
      have := congrArg (fun x => x % b) e
      (try dsimp only at this)
      rw [Nat.mul_add_mod_self_right, Nat.mul_add_mod_self_right] at this
      exact this
    rw [Nat.mod_eq_of_lt (by omega), Nat.mod_eq_of_lt (by omega)] at hm
    have hq : tx_er b o l = tx_er b o l' := by
      have e2 : tx_er b o l * b = tx_er b o l' * b := by omega
      exact Nat.eq_of_mul_eq_mul_right (by omega) e2
    rw [tx_er_inj ho hb (fun x hx => h x (List.mem_cons_of_mem _ hx)) (fun x hx => h' x (List.mem_cons_of_mem _ hx)) hq, show c = c' from by omega]
theorem tx_en_inj {b o : Nat} (ho : o < 97) (hb : 122 < b + o) {l l' : List Nat} (h : tx_ok l) (h' : tx_ok l') (e : tx_en b o l = tx_en b o l') : l = l' := by
  rw [tx_en_er, tx_en_er] at e
  have := tx_er_inj ho hb (fun c hc => h c (List.mem_reverse.mp hc)) (fun c hc => h' c (List.mem_reverse.mp hc)) e
  exact List.reverse_inj.mp this
theorem tx_er_lt {b o : Nat} (hb : 122 < b + o) (ho : 0 < b) : ∀ {l : List Nat}, tx_ok l → tx_er b o l < b ^ l.length
  | [], _ => by show 0 < b ^ 0; rw [Nat.pow_zero]; omega
  | c :: l, h => by
    have h1 := h c List.mem_cons_self
    have ih := tx_er_lt hb ho (fun x hx => h x (List.mem_cons_of_mem _ hx))
    show tx_er b o l * b + (c - o) < b ^ (l.length + 1)
    rw [Nat.pow_succ]
    have h2 : (tx_er b o l + 1) * b ≤ b ^ l.length * b := Nat.mul_le_mul_right b ih
    rw [Nat.add_mul, Nat.one_mul] at h2
    omega
theorem tx_en_lt {b o k : Nat} (hb : 122 < b + o) (ho : 0 < b) {l : List Nat} (h : tx_ok l) (hk : l.length ≤ k) : tx_en b o l < b ^ k := by
  rw [tx_en_er]
  have := tx_er_lt hb ho (l := l.reverse) (fun c hc => h c (List.mem_reverse.mp hc))
  rw [List.length_reverse] at this
  exact Nat.lt_of_lt_of_le this (Nat.pow_le_pow_right ho hk)
theorem tx_j64 {a b : Nat} (ha : a < 18446744073709551616) (hb : b < 18446744073709551616) (h : Int64.ofNat a = Int64.ofNat b) : a = b := by
  have e := congrArg (fun x : Int64 => x.toBitVec.toNat) h
  simp only [Int64.toBitVec_ofNat', BitVec.toNat_ofNat] at e
  omega
/-- the words' numbers as the two sides have them -/
def tx_x (l : List Nat) : Int64 := Int64.ofNat (tx_en 32 96 l)
def tx_m (l : List Nat) : Int64 := Int64.ofNat (tx_en 256 0 l)
def tx_w (l : List Nat) : Prop := tx_ok l ∧ l.length ≤ 8
theorem tx_x_inj {l l' : List Nat} (h : tx_w l) (h' : tx_w l') (e : tx_x l = tx_x l') : l = l' := by
  have b1 := tx_en_lt (b := 32) (o := 96) (by decide) (by decide) h.1 h.2
  have b2 := tx_en_lt (b := 32) (o := 96) (by decide) (by decide) h'.1 h'.2
  exact tx_en_inj (by decide) (by decide) h.1 h'.1 (tx_j64 (by omega) (by omega) e)
theorem tx_m_inj {l l' : List Nat} (h : tx_w l) (h' : tx_w l') (e : tx_m l = tx_m l') : l = l' := by
  have b1 := tx_en_lt (b := 256) (o := 0) (by decide) (by decide) h.1 h.2
  have b2 := tx_en_lt (b := 256) (o := 0) (by decide) (by decide) h'.1 h'.2
  exact tx_en_inj (by decide) (by decide) h.1 h'.1 (tx_j64 (by omega) (by omega) e)
/-- the number that digits make -/
def tx_dec (T : Nat → Nat) (a : Nat) : Nat → Nat
  | 0 => 0
  | k + 1 => tx_dec T a k * 10 + (T (a + k) - 48)
/-- the words that stand for themselves: false is the first, classic the last -/
def tx_keys : List (List Nat) := [[102, 97, 108, 115, 101], [97, 110, 100], [111, 114], [105, 109, 112], [97, 108, 108], [115, 111, 109, 101], [115, 97, 109, 101], [110, 111, 116], [114, 101, 108], [102, 117, 110], [97, 120, 105, 111, 109],
  [97, 115, 115, 117, 109, 101], [116, 104, 101, 111, 114, 101, 109], [98, 111, 116, 104], [108, 101, 102, 116], [114, 105, 103, 104, 116], [111, 114, 108, 101, 102, 116], [111, 114, 114, 105, 103, 104, 116], [99, 97, 115, 101], [97, 112, 112, 108, 121], [100, 101, 100, 117, 99, 101],
  [103, 101, 110, 101, 114, 97, 108], [115, 112, 101, 99, 105, 97, 108], [101, 120, 105, 115, 116], [111, 112, 101, 110], [114, 101, 112, 108, 97, 99, 101], [97, 98, 115, 117, 114, 100], [99, 108, 97, 115, 115, 105, 99]]
/-- the first place of a word in a list -/
def tx_ix : List (List Nat) → List Nat → Nat → Option Nat
  | [], _, _ => none
  | k :: l, w, i => if k = w then some i else tx_ix l w (i + 1)
def tx_at (l : List (List Nat)) (w : List Nat) : Option Nat := tx_ix l w 0
theorem tx_ix_some : ∀ {l : List (List Nat)} {w : List Nat} {i k : Nat}, tx_ix l w i = some k → i ≤ k ∧ k < i + l.length ∧ l[k - i]? = some w ∧ ∀ j, j < k - i → l[j]? ≠ some w
  | [], w, i, k, h => by cases h
  | a :: l, w, i, k, h => by
    unfold tx_ix at h
    split at h
    · next e =>
      cases h
      refine ⟨Nat.le_refl _, by rw [List.length_cons]; omega, by rw [Nat.sub_self, e]; rfl, fun j hj => by omega⟩
    · next e =>
      obtain ⟨h1, h2, h3, h4⟩ := tx_ix_some h
      refine ⟨by omega, by rw [List.length_cons]; omega, ?_, fun j hj => ?_⟩
      · rw [show k - i = (k - (i + 1)) + 1 from by omega, List.getElem?_cons_succ]
        exact h3
      · cases j with
        | zero => rw [List.getElem?_cons_zero]; exact fun z => e (Option.some.inj z)
        | succ j => rw [List.getElem?_cons_succ]; exact h4 j (by omega)
theorem tx_ix_none : ∀ {l : List (List Nat)} {w : List Nat} {i : Nat}, tx_ix l w i = none → ∀ j : Nat, l[j]? ≠ some w
  | [], w, i, h, j => by intro z; cases z
  | a :: l, w, i, h, j => by
    unfold tx_ix at h
    split at h
    · cases h
    · next e =>
      cases j with
      | zero => rw [List.getElem?_cons_zero]; exact fun z => e (Option.some.inj z)
      | succ j => rw [List.getElem?_cons_succ]; exact tx_ix_none h j
/-- what a loop over a list finds -/
theorem tx_at_is {l : List (List Nat)} {w : List Nat} {k : Nat} (h : l[k]? = some w) (hj : ∀ j, j < k → l[j]? ≠ some w) : tx_at l w = some k := by
  unfold tx_at
  cases e : tx_ix l w 0 with
  | none => exact absurd h (tx_ix_none e k)
  | some q =>
    obtain ⟨-, -, h3, h4⟩ := tx_ix_some e
    rw [Nat.sub_zero] at h3 h4
    rcases Nat.lt_trichotomy q k with z | z | z
    · exact absurd h3 (hj q z)
    · rw [z]
    · exact absurd h (h4 k z)
theorem tx_at_no {l : List (List Nat)} {w : List Nat} (h : ∀ j, j < l.length → l[j]? ≠ some w) : tx_at l w = none := by
  unfold tx_at
  cases e : tx_ix l w 0 with
  | none => rfl
  | some q =>
    obtain ⟨-, h2, h3, -⟩ := tx_ix_some e
    exact absurd h3 (h _ (by omega))
/-- a token, from the place p on: kind (0 end, 1 none, 2 name, 3 word, 4 number, 5 sign), place, place behind, the word's letters, the key word's or the digits' number -/
abbrev tx_K : Type := Nat × Nat × Nat × List Nat × Nat
def tx_tok (T : Nat → Nat) (n p : Nat) : tx_K :=
  let a := tx_to tx_B T n p
  if n ≤ a then (0, a, a, [], 0)
  else if tx_L (T a) = true then
    let e := tx_to tx_L T n a
    if 8 < e - a then (1, a, e, [], 0)
    else match tx_at tx_keys (tx_wd T a (e - a)) with
      | some k => (3, a, e, tx_wd T a (e - a), k)
      | none => (2, a, e, tx_wd T a (e - a), 0)
  else if tx_D (T a) = true then
    let e := tx_to tx_D T n a
    if 4 < e - a ∨ (e < n ∧ tx_L (T e) = true) then (1, a, e, [], 0) else (4, a, e, [], tx_dec T a (e - a))
  else if T a = 59 then (5, a, a + 1, [], 0) else (1, a, a + 1, [], 0)
