/-! a row of signs: prefix code of and, or, imp over false and letters -/
def pw : List Nat → Nat → Prop
  | [], k => k = 0
  | c :: l, k => (c ≤ 3 ∨ 100 ≤ c) ∧ ∃ k', k = k' + 1 ∧ pw l (k' + if c = 1 ∨ c = 2 ∨ c = 3 then 2 else 0)
theorem pw_le : ∀ {m : List Nat} {k : Nat}, pw m k → k ≤ m.length
  | [], k, h => by rw [show k = 0 from h]; exact Nat.zero_le _
  | c :: m, k, ⟨h0, k', h1, h2⟩ => by
    have := pw_le h2
    rw [List.length_cons]
    omega
theorem pw_un : ∀ {m : List Nat} {k j : Nat}, pw m k → pw m j → k = j
  | [], k, j, h, h' => by rw [show k = 0 from h, show j = 0 from h']
  | c :: m, k, j, ⟨h0, k', h1, h2⟩, ⟨g0, j', g1, g2⟩ => by
    have := pw_un h2 g2
    omega
theorem pw_app : ∀ {a m : List Nat} {k : Nat}, pw (a ++ m) k → ∃ j, pw m j
  | [], m, k, h => ⟨k, h⟩
  | c :: a, m, k, ⟨h0, k', h1, h2⟩ => pw_app h2
theorem pw_snoc {S : List Nat} {k c : Nat} (h : ∀ m, pw m (k + 1) → pw (S ++ m) 1) (hc : c ≤ 3 ∨ 100 ≤ c) : ∀ m, pw m (k + if c = 1 ∨ c = 2 ∨ c = 3 then 2 else 0) → pw ((S ++ [c]) ++ m) 1 := by
  intro m hm
  rw [List.append_assoc]
  exact h ([c] ++ m) ⟨hc, k, rfl, hm⟩
theorem LW_c {σ : mSig} {c k : Nat} {l : List Nat} (h : ws σ (c :: l) (List.replicate k true)) (hc : c ≤ 3) : ∃ k', k = k' + 1 ∧ ws σ l (List.replicate (k' + if c = 1 ∨ c = 2 ∨ c = 3 then 2 else 0) true) := by
  cases k with
  | zero => cases h
  | succ k' =>
    refine ⟨k', rfl, ?_⟩
    obtain ⟨ks, hk, hw⟩ := ws_hd (show ws σ (c :: l) (true :: List.replicate k' true) from h)
    by_cases e : c = 0
    · subst e
      cases hk
      exact hw
    · rw [kS_f2 (by omega) hc] at hk
      cases hk
      rw [if_pos (by omega)]
      exact hw
theorem LW_l {σ : mSig} {c k : Nat} {l : List Nat} (h : ws σ (c :: l) (List.replicate k true)) : ∃ k' p q, k = k' + 1 ∧ c :: l = p ++ q ∧ ws σ p [true] ∧ ws σ q (List.replicate k' true) := by
  cases k with
  | zero => cases h
  | succ k' =>
    obtain ⟨p, q, h1, h2, h3⟩ := ws_split (W1 := [true]) (W2 := List.replicate k' true) (show ws σ (c :: l) ([true] ++ List.replicate k' true) from h)
    exact ⟨k', p, q, rfl, h1, h2, h3⟩
theorem LW_0 {σ : mSig} {k : Nat} (h : ws σ [] (List.replicate k true)) : k = 0 := by
  cases k with
  | zero => rfl
  | succ k' => cases h
theorem lsnoc {α : Type} {l : List α} (h : 0 < (l.length : Int)) : ∃ a c, l = a ++ [c] := by
  have hne : l ≠ [] := fun z => by rw [z, List.length_nil] at h; omega
  exact ⟨l.dropLast, l.getLast hne, (List.dropLast_concat_getLast hne).symm⟩
theorem Md_n {g : Nat → Int32} {n n' : Int} {l : List Nat} (h : Md g n l) (e : n' = n) : Md g n' l := by rw [e]; exact h
/-- a connective takes the two that stand there -/
theorem pw_bin {S a m : List Nat} {c n : Nat} (h : pw S 1) (e : S = a ++ c :: m) (hc : c = 1 ∨ c = 2 ∨ c = 3) (hm : pw m n) : 2 ≤ n ∧ pw (c :: m) (n - 1) := by
  rw [e] at h
  obtain ⟨j, hj⟩ := pw_app h
  obtain ⟨h0, k', h1, h2⟩ := hj
  rw [if_pos hc] at h2
  have := pw_un hm h2
  refine ⟨by omega, h0, k', by omega, ?_⟩
  rw [if_pos hc]
  exact h2
theorem pw_val {S a m : List Nat} {c : Nat} (h : pw S 1) (e : S = a ++ c :: m) : c ≤ 3 ∨ 100 ≤ c := by
  rw [e] at h
  obtain ⟨j, hj⟩ := pw_app h
  exact hj.1
theorem pw_leaf {S a m : List Nat} {c n : Nat} (h : pw S 1) (e : S = a ++ c :: m) (hc : ¬ (c = 1 ∨ c = 2 ∨ c = 3)) (hm : pw m n) : pw (c :: m) (n + 1) := by
  refine ⟨pw_val h e, n, rfl, ?_⟩
  rw [if_neg hc]
  exact hm
theorem and01 {a b : Int32} (ha : 0 ≤ a.toInt ∧ a.toInt ≤ 1) (hb : 0 ≤ b.toInt ∧ b.toInt ≤ 1) : 0 ≤ (a &&& b).toInt ∧ (a &&& b).toInt ≤ 1 := by
  rcases (show a.toInt = 0 ∨ a.toInt = 1 from by omega) with h | h <;> rcases (show b.toInt = 0 ∨ b.toInt = 1 from by omega) with g | g
  · rw [x0 h, x0 g]; decide
  · rw [x0 h, xO1 g]; decide
  · rw [xO1 h, x0 g]; decide
  · rw [xO1 h, xO1 g]; decide
theorem or01 {a b : Int32} (ha : 0 ≤ a.toInt ∧ a.toInt ≤ 1) (hb : 0 ≤ b.toInt ∧ b.toInt ≤ 1) : 0 ≤ (a ||| b).toInt ∧ (a ||| b).toInt ≤ 1 := by
  rcases (show a.toInt = 0 ∨ a.toInt = 1 from by omega) with h | h <;> rcases (show b.toInt = 0 ∨ b.toInt = 1 from by omega) with g | g
  · rw [x0 h, x0 g]; decide
  · rw [x0 h, xO1 g]; decide
  · rw [xO1 h, x0 g]; decide
  · rw [xO1 h, xO1 g]; decide
theorem Md_w {s : ps_S} {r : Nat} {n v : Int32} {ml : List Nat} {c : Nat} (h : Md (ps_a s r) n.toInt ml) (hl : ml.length < 90000) (hv : v.toInt = c) : Md (ps_a (ps_ua s r (Int32.toNatClampNeg n) v) r) (n.toInt + 1) (ml ++ [c]) := by
  have e : Int32.toNatClampNeg n = ml.length := by
    rw [nx (n := (ml.length : Int)) h.1]
    omega
  refine Md_mk h hl rfl (fun i hi _ => ua_ne (by omega)) (fun _ => ?_)
  rw [e, ua_eq]
  exact hv
