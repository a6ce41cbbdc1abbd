/-! helpers of partial runs -/
theorem pl_in {i : Int32} {n : Nat} (h : pm_in i n = true) : 0 ≤ i.toInt ∧ i.toInt < n := by
  unfold pm_in at h
  rw [Bool.and_eq_true] at h
  have h1 := xle (of_decide_eq_true h.1)
  rw [Int32.toInt_zero] at h1
  have h2 : i.toInt.toNat < n := Nat.le_of_ble_eq_true h.2
  omega
theorem lg_z {a b : Int64} (h : lg_cmp a b = 0) : a = b := lg_eq (by rw [h]; rfl)
theorem lg_self (a : Int64) : lg_cmp a a = 0 := by
  unfold lg_cmp
  rw [if_neg (Int64.lt_irrefl), if_pos rfl]
theorem lg_nz {a b : Int64} (h : lg_cmp a b ≠ 0) : a ≠ b := fun e => h (by rw [e]; exact lg_self b)
theorem xtn {x : Int32} {a : Nat} (h : x.toInt = a) : x.toNatClampNeg = a := by
  show x.toInt.toNat = a
  omega
theorem xz {x : Int32} (h : 0 ≤ x.toInt) : (x.toNatClampNeg : Int) = x.toInt := by
  show ((x.toInt.toNat : Nat) : Int) = x.toInt
  omega
theorem nI_i {n : Nat} (h : n < 2147483648) : (nI n).toInt = n := Int32.toInt_ofNat_of_lt h
theorem xnI {x : Int32} {n : Nat} (h : x.toInt = n) : x = nI n := by
  have := xR x
  exact Int32.toInt_inj.mp (by rw [nI_i (by omega)]; exact h)
theorem xj1 {x : Int32} {a : Nat} (h : x.toInt = a) (ha : a < 2147483647) : (x + 1).toInt = (a + 1 : Nat) := by
  have h1 : (1 : Int32).toInt = 1 := by decide
  rw [xIa (by omega) (by omega), h, h1]
  omega
/-- the frame of the lexer of the class -/
def cv_fl (s s' : ps_S) : Prop := (∀ q f, (q ≠ 903 ∨ f = 2) → ps_i s' q f = ps_i s q f) ∧ (∀ q f, q ≠ 903 → ps_j s' q f = ps_j s q f) ∧ ps_r s' = ps_r s ∧ ps_a s' = ps_a s ∧ ps_b s' = ps_b s
theorem cv_fl_refl {s : ps_S} : cv_fl s s := ⟨fun _ _ _ => rfl, fun _ _ _ => rfl, rfl, rfl, rfl⟩
theorem cv_fl_tr {s s1 s2 : ps_S} (h : cv_fl s s1) (g : cv_fl s1 s2) : cv_fl s s2 := ⟨fun q f e => (g.1 q f e).trans (h.1 q f e), fun q f e => (g.2.1 q f e).trans (h.2.1 q f e), g.2.2.1.trans h.2.2.1, g.2.2.2.1.trans h.2.2.2.1, g.2.2.2.2.trans h.2.2.2.2⟩
theorem cv_fl_i {s s' : ps_S} {q : Nat} {v : Int32} (h : cv_fl s s') (hq : q ≠ 2) : cv_fl s (ps_ui s' 903 q v) := by
  refine ⟨fun q' f e => ?_, h.2.1, h.2.2.1, h.2.2.2.1, h.2.2.2.2⟩
  rw [ps_i_ui, if_neg (by omega)]
  exact h.1 q' f e
theorem cv_fl_j {s s' : ps_S} {q : Nat} {v : Int64} (h : cv_fl s s') : cv_fl s (ps_uj s' 903 q v) := by
  refine ⟨h.1, fun q' f e => ?_, h.2.2.1, h.2.2.2.1, h.2.2.2.2⟩
  rw [ps_j_uj, if_neg (by omega)]
  exact h.2.1 q' f e
/-- the class's text: T its bytes, n how many -/
def cv_T (s : ps_S) (T : Nat → Nat) (n : Nat) : Prop := ps_r s 903 1 = 1 ∧ (ps_i s 903 2).toInt = n ∧ n ≤ 1600 ∧ (∀ k, k < n → (ps_a s 1 k &&& 255).toInt = T k) ∧ ∀ (k : Nat) (w : List Nat), tx_keys[k]? = some w → ps_b s 904 k = tx_x w
theorem cv_T_fl {s s' : ps_S} {T : Nat → Nat} {n : Nat} (h : cv_T s T n) (g : cv_fl s s') : cv_T s' T n := by
  obtain ⟨h1, h2, h3, h4, h5⟩ := h
  obtain ⟨g1, g2, g3, g4, g5⟩ := g
  exact ⟨by rw [g3]; exact h1, by rw [g1 903 2 (Or.inr rfl)]; exact h2, h3, by rw [g4]; exact h4, by rw [g5]; exact h5⟩
/-- the class's token -/
def cv_K (s : ps_S) (tk : tx_K) : Prop := (ps_i s 903 4).toInt = tk.1 ∧ (ps_i s 903 5).toInt = tk.2.1 ∧ (ps_i s 903 3).toInt = tk.2.2.1 ∧ (tk.1 = 2 → ps_j s 903 8 = tx_x tk.2.2.2.1) ∧ (ps_i s 903 6).toInt = (if tk.1 = 3 then (tk.2.2.2.2 : Int) else -1) ∧ (tk.1 = 4 → (ps_i s 903 7).toInt = tk.2.2.2.2)
theorem ps_ln1 : ps_ln 1 = 1600 := by decide +kernel
theorem ps_ar1 : (ps_ar 1 1 || ps_ar 1 2) = true := by decide +kernel
theorem tx_B_c {c : Nat} : tx_B c = true ↔ c = 32 ∨ c = 10 := by
  unfold tx_B
  rw [Bool.or_eq_true, Nat.beq_eq, Nat.beq_eq]
theorem tx_L_c {c : Nat} : tx_L c = true ↔ 97 ≤ c ∧ c ≤ 122 := by
  unfold tx_L
  rw [Bool.and_eq_true, Nat.ble_eq, Nat.ble_eq]
theorem tx_D_c {c : Nat} : tx_D c = true ↔ 48 ≤ c ∧ c ≤ 57 := by
  unfold tx_D
  rw [Bool.and_eq_true, Nat.ble_eq, Nat.ble_eq]
