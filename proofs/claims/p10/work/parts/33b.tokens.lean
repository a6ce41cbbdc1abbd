/-! the arithmetic of words and numbers; what a token is -/
theorem xon {v : Int32} {t : Nat} (h : v.toInt = t) : v.toInt64 = Int64.ofNat t := by
  have := xR v
  refine Int64.toInt_inj.mp ?_
  rw [Int32.toInt_toInt64, Int64.toInt_ofNat_of_lt (by omega), h]
theorem xwl {c t : Nat} {l : Int64} {v : Int32} (hl : l = Int64.ofNat c) (hv : v.toInt = t) (ht : 97 ≤ t) : ((l * (32 : Int64) + Int32.toInt64 v) - (97 : Int64)) + 1 = Int64.ofNat (c * 32 + (t - 96)) := by
  rw [xon hv, hl]
  obtain ⟨u, rfl⟩ : ∃ u, t = u + 97 := ⟨t - 97, by omega⟩
  rw [show u + 97 - 96 = u + 1 from by omega, Int64.ofNat_add, Int64.ofNat_add, Int64.ofNat_mul, Int64.ofNat_add]
  show Int64.ofNat c * (32 : Int64) + (Int64.ofNat u + (97 : Int64)) - (97 : Int64) + 1 = Int64.ofNat c * (32 : Int64) + (Int64.ofNat u + 1)
  rw [← Int64.add_assoc, Int64.add_sub_cancel, Int64.add_assoc]
theorem xdg {c t : Nat} {l v : Int32} (hl : l = Int32.ofNat c) (hv : v.toInt = t) (ht : 48 ≤ t) : ((l * 10) + v) - 48 = Int32.ofNat (c * 10 + (t - 48)) := by
  rw [show v = Int32.ofNat t from xnI hv, hl]
  obtain ⟨u, rfl⟩ : ∃ u, t = u + 48 := ⟨t - 48, by omega⟩
  rw [show u + 48 - 48 = u from by omega, Int32.ofNat_add, Int32.ofNat_add, Int32.ofNat_mul]
  show Int32.ofNat c * (10 : Int32) + (Int32.ofNat u + (48 : Int32)) - (48 : Int32) = Int32.ofNat c * (10 : Int32) + Int32.ofNat u
  rw [← Int32.add_assoc, Int32.add_sub_cancel]
theorem tx_dec_lt {T : Nat → Nat} {a : Nat} : ∀ {k : Nat}, (∀ j, j < k → tx_D (T (a + j)) = true) → tx_dec T a k < 10 ^ k
  | 0, _ => by show 0 < 1; omega
  | k + 1, h => by
    have h1 := tx_D_c.mp (h k (Nat.lt_succ_self k))
    have ih := tx_dec_lt (k := k) (fun j hj => h j (by omega))
    show tx_dec T a k * 10 + (T (a + k) - 48) < 10 ^ (k + 1)
    rw [Nat.pow_succ]
    omega
theorem tx_keys_w : ∀ w, w ∈ tx_keys → tx_w w := by
  have h : tx_keys.all (fun w => w.all (fun c => Nat.ble 97 c && Nat.ble c 122) && Nat.ble w.length 8) = true := by decide +kernel
  intro w hw
  have k := List.all_eq_true.mp h w hw
  rw [Bool.and_eq_true] at k
  refine ⟨fun c hc => ?_, Nat.le_of_ble_eq_true k.2⟩
  have k2 := List.all_eq_true.mp k.1 c hc
  rw [Bool.and_eq_true] at k2
  exact ⟨Nat.le_of_ble_eq_true k2.1, Nat.le_of_ble_eq_true k2.2⟩
theorem tx_keys_get {i : Nat} (h : i < 28) : ∃ w, tx_keys[i]? = some w ∧ tx_w w := by
  have hl : tx_keys.length = 28 := by decide
  refine ⟨tx_keys[i]'(by omega), List.getElem?_eq_getElem _, tx_keys_w _ (List.getElem_mem _)⟩
theorem tx_wd_w {T : Nat → Nat} {a k : Nat} (h : ∀ j, j < k → tx_L (T (a + j)) = true) (hk : k ≤ 8) : tx_w (tx_wd T a k) := by
  refine ⟨fun c hc => ?_, by rw [tx_wd_len]; exact hk⟩
  obtain ⟨j, h1, h2⟩ := tx_wd_mem hc
  rw [h2]
  exact tx_L_c.mp (h j h1)
section TXK
variable {T : Nat → Nat} {n p a : Nat}
theorem tx_tok_end (ha : tx_to tx_B T n p = a) (h : n ≤ a) : tx_tok T n p = (0, a, a, [], 0) := by
  unfold tx_tok
  dsimp only
  rw [ha, if_pos h]
theorem tx_tok_word (ha : tx_to tx_B T n p = a) (h : a < n) (hL : tx_L (T a) = true) : tx_tok T n p = (if 8 < tx_to tx_L T n a - a then (1, a, tx_to tx_L T n a, [], 0) else match tx_at tx_keys (tx_wd T a (tx_to tx_L T n a - a)) with
      | some k => (3, a, tx_to tx_L T n a, tx_wd T a (tx_to tx_L T n a - a), k)
      | none => (2, a, tx_to tx_L T n a, tx_wd T a (tx_to tx_L T n a - a), 0)) := by
  unfold tx_tok
  dsimp only
  rw [ha, if_neg (by omega), if_pos hL]
  rfl
theorem tx_tok_num (ha : tx_to tx_B T n p = a) (h : a < n) (hL : ¬ tx_L (T a) = true) (hD : tx_D (T a) = true) : tx_tok T n p = (if 4 < tx_to tx_D T n a - a ∨ (tx_to tx_D T n a < n ∧ tx_L (T (tx_to tx_D T n a)) = true) then (1, a, tx_to tx_D T n a, [], 0) else (4, a, tx_to tx_D T n a, [], tx_dec T a (tx_to tx_D T n a - a))) := by
  unfold tx_tok
  dsimp only
  rw [ha, if_neg (by omega), if_neg hL, if_pos hD]
theorem tx_tok_sign (ha : tx_to tx_B T n p = a) (h : a < n) (hL : ¬ tx_L (T a) = true) (hD : ¬ tx_D (T a) = true) : tx_tok T n p = (if T a = 59 then (5, a, a + 1, [], 0) else (1, a, a + 1, [], 0)) := by
  unfold tx_tok
  dsimp only
  rw [ha, if_neg (by omega), if_neg hL, if_neg hD]
theorem tx_to_all {P : Nat → Bool} : ∀ {k : Nat}, p ≤ k → k < tx_to P T n p → k < n ∧ P (T k) = true := by
  have key : ∀ (f p : Nat), ∀ k, p ≤ k → k < tx_run P T n f p → k < n ∧ P (T k) = true := by
    intro f
    induction f with
    | zero =>
      intro p k h1 h2
      have h2 : k < p := h2
      omega
    | succ f ih =>
      intro p k h1 h2
      have h2 : k < cond (Nat.blt p n && P (T p)) (tx_run P T n f (p + 1)) p := h2
      cases e : Nat.blt p n && P (T p) with
      | false =>
        rw [e] at h2
        have h2 : k < p := h2
        omega
      | true =>
        rw [e] at h2
        rw [Bool.and_eq_true] at e
        by_cases hk : k = p
        · rw [hk]
          exact ⟨Nat.le_of_ble_eq_true e.1, e.2⟩
        · exact ih (p + 1) k (by omega) h2
  exact fun {k} h1 h2 => key (n - p) p k h1 h2
/-- what a token is, at least -/
theorem tx_tok_ok (hp : p ≤ n) : (tx_tok T n p).2.1 ≤ n ∧ (tx_tok T n p).2.2.1 ≤ n ∧ (tx_tok T n p).1 ≤ 5 ∧ ((tx_tok T n p).1 = 2 → tx_w (tx_tok T n p).2.2.2.1) ∧ ((tx_tok T n p).1 = 3 → (tx_tok T n p).2.2.2.2 < 28) ∧ ((tx_tok T n p).1 = 4 → (tx_tok T n p).2.2.2.2 < 10000) := by
  have ha : tx_to tx_B T n p ≤ n := tx_to_le hp
  generalize e : tx_to tx_B T n p = a at ha
  by_cases h : n ≤ a
  · rw [tx_tok_end e h]
    exact ⟨ha, ha, Nat.zero_le _, (fun z => by cases z), (fun z => by cases z), (fun z => by cases z)⟩
  by_cases hL : tx_L (T a) = true
  · have hle : tx_to tx_L T n a ≤ n := tx_to_le ha
    rw [tx_tok_word e (by omega) hL]
    split
    · exact ⟨ha, hle, Nat.le_of_ble_eq_true rfl, (fun z => by cases z), (fun z => by cases z), (fun z => by cases z)⟩
    · next h8 =>
      split
      · next k hk =>
        refine ⟨ha, hle, Nat.le_of_ble_eq_true rfl, (fun z => by cases z), fun _ => ?_, (fun z => by cases z)⟩
        have hl : tx_keys.length = 28 := by decide
        have := (tx_ix_some hk).2.1
        show k < 28
        omega
      · refine ⟨ha, hle, Nat.le_of_ble_eq_true rfl, fun _ => tx_wd_w (fun j hj => (tx_to_all (n := n) (p := a) (Nat.le_add_right a j) (by omega)).2) (by omega), (fun z => by cases z), (fun z => by cases z)⟩
  by_cases hD : tx_D (T a) = true
  · have hle : tx_to tx_D T n a ≤ n := tx_to_le ha
    rw [tx_tok_num e (by omega) hL hD]
    split
    · exact ⟨ha, hle, Nat.le_of_ble_eq_true rfl, (fun z => by cases z), (fun z => by cases z), (fun z => by cases z)⟩
    · next h4 =>
      refine ⟨ha, hle, Nat.le_of_ble_eq_true rfl, (fun z => by cases z), (fun z => by cases z), fun _ => ?_⟩
      have h5 := tx_dec_lt (T := T) (a := a) (k := tx_to tx_D T n a - a) (fun j hj => (tx_to_all (n := n) (p := a) (Nat.le_add_right a j) (by omega)).2)
      exact Nat.lt_of_lt_of_le h5 (Nat.le_trans (Nat.pow_le_pow_right (by decide) (show tx_to tx_D T n a - a ≤ 4 by omega)) (by decide))
  · rw [tx_tok_sign e (by omega) hL hD]
    split
    · exact ⟨ha, (by show a + 1 ≤ n; omega), Nat.le_of_ble_eq_true rfl, (fun z => by cases z), (fun z => by cases z), (fun z => by cases z)⟩
    · exact ⟨ha, (by show a + 1 ≤ n; omega), Nat.le_of_ble_eq_true rfl, (fun z => by cases z), (fun z => by cases z), (fun z => by cases z)⟩
end TXK
