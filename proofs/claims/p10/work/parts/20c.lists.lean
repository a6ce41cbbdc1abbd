theorem R17_k {σ : mSig} {gl gb : Nat → Int32} {n k : Int} {c : Nat} {m3 ml : List Nat} {b : Bool} (h : R17 σ gl gb n k (c :: m3) ml b) : ∃ b0 ks, kS σ b0 c = some ks := by
  rcases h with h | ⟨b0, W, h1, h2, h3⟩
  · cases h.1
  · obtain ⟨ks, hk, -⟩ := ws_hd h2
    exact ⟨b0, ks, hk⟩
theorem kS_len {σ : mSig} {b b' : Bool} {p : Nat} {ks ks' : List Bool} (hσ : σ.1.1 ≤ 6 ∧ σ.1.2 ≤ 4) (h : kS σ b p = some ks) (h' : kS σ b' p = some ks') : ks.length = ks'.length := by
  have h1 := kS_num h
  have h2 := kS_num h'
  omega
theorem R110_nn {σ : mSig} {gl gb : Nat → Int32} {n k : Int} {m3 ml : List Nat} {b : Bool} (h : R110 σ gl gb n k m3 ml b) (hn : 0 < n) : 0 ≤ k - if gb (n - 1).toNat = 0 then 0 else 1 := by
  obtain ⟨W, h1, h2, h3⟩ := h
  rw [show n.toNat = (n - 1).toNat + 1 from by omega] at h1
  obtain ⟨c, b0, W', e1, e2, e3, e4⟩ := h1
  exact Stk_nn e4
theorem R110_c {σ : mSig} {gl gb : Nat → Int32} {n k : Int} {m3 ml : List Nat} {b : Bool} (h : R110 σ gl gb n k m3 ml b) (hn : 0 < n) : ∃ c : Nat, (gl (n - 1).toNat).toInt = c := by
  obtain ⟨W, h1, h2, h3⟩ := h
  rw [show n.toNat = (n - 1).toNat + 1 from by omega] at h1
  obtain ⟨c, b0, W', e1, e2, e3, e4⟩ := h1
  exact ⟨c, e1⟩
theorem ws_72 {σ : mSig} (hσ : σ.1.1 ≤ 6 ∧ σ.1.2 ≤ 4) : ∀ {l : List Nat} {W : List Bool}, ws σ l W → ∀ p, p ∈ l → p < 72
  | [], W, h, p, hp => by cases hp
  | c :: l, W, h, p, hp => by
    obtain ⟨b, W', ks, rfl, hk, h⟩ := ws_cons.mp h
    rcases List.mem_cons.mp hp with rfl | hp
    · exact kS_72 hσ hk
    · exact ws_72 hσ h p hp
theorem ws_W {σ : mSig} {c : Nat} {l : List Nat} {W : List Bool} (h : ws σ (c :: l) W) : ∃ b W', W = b :: W' := by
  obtain ⟨b, W', ks, e, -, -⟩ := ws_cons.mp h
  exact ⟨b, W', e⟩
theorem ws_1 {σ : mSig} {p : Nat} (hσ : σ.1.1 ≤ 6 ∧ σ.1.2 ≤ 4) (h : 40 ≤ p) (h' : p < 72) : ws σ [p] [false] := ws_c (kS_tx hσ.2 h h') rfl
theorem R110_z {σ : mSig} {gl gb gl' gb' : Nat → Int32} {n k : Int} {m3 ml : List Nat} {b : Bool} (hn : n = 0) (h : R110 σ gl gb n k m3 ml b) : R17 σ gl' gb' n k m3 ml b := by
  subst hn
  exact R110_0 h
theorem xm1 : (Int32.ofInt (-1)).toInt = -1 := by decide
theorem xdec {a : Int32} (h : -2147483648 < a.toInt) : (a + (Int32.ofInt (-1))).toInt = a.toInt + (-1) := by
  have := Int32.toInt_lt a
  rw [xI_add (by rw [xm1]; omega) (by rw [xm1]; omega), xm1]
