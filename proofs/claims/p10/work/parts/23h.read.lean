theorem ua_if {s : ps_S} {r i j : Nat} {v : Int32} : ps_a (ps_ua s r i v) r j = if j = i then v else ps_a s r j := by
  rw [ps_a_ua]
  by_cases e : j = i
  · rw [if_pos ⟨rfl, e⟩, if_pos e]
  · rw [if_neg (fun z => e z.2), if_neg e]
theorem nx {i : Int32} {n : Int} (h : i.toInt = n) : Int32.toNatClampNeg i = n.toNat := by
  show i.toInt.toNat = _
  rw [h]
theorem lg_eq {a b : Int64} (h : (lg_cmp a b).toInt = 0) : a = b := by
  unfold lg_cmp at h
  split at h
  · exact absurd h (by decide)
  · split at h
    · next q => exact q
    · exact absurd h (by decide)
theorem lgx {a b c : Int64} (h : (lg_cmp a b).toInt = 0) (h' : (lg_cmp a c).toInt = 0) : b = c := (lg_eq h).symm.trans (lg_eq h')
theorem Rw_zero {g : Nat → Int32} {a : Int} (h1 : a % 41 = 0) (h2 : 0 ≤ a) (h3 : a < 27306) (h : (g a.toNat).toInt = 0) : Rw g a [] := ⟨h1, h2, h3, by decide, h, fun l1 p l2 e => by simp at e⟩
/-! the reader: what is still wanted, level by level; z: the zeros that the nots on the stack will still write -/
def Rdk (gw gt gn gb : Nat → Int32) : Nat → Int → List (Bool × Nat) → Nat → Prop
  | 0, k, W, z => k = 0 ∧ W = [] ∧ z = 0
  | n + 1, k, W, z => ∃ (c : Nat) (W' : List (Bool × Nat)) (z' : Nat), (gw n).toInt = c ∧ 0 ≤ k ∧ W = List.replicate c (decide (gt n = 0), k.toNat) ++ ((if gn n = 0 then [] else [(true, k.toNat)]) ++ W') ∧ z = (if gn n = 0 then 0 else 1) + z' ∧ Rdk gw gt gn gb n (k - if gb n = 0 then 0 else 1) W' z'
theorem Rdk_nn {gw gt gn gb : Nat → Int32} : ∀ {n : Nat} {k : Int} {W : List (Bool × Nat)} {z : Nat}, Rdk gw gt gn gb n k W z → 0 ≤ k
  | 0, k, W, z, h => by rw [h.1]; exact Int.le_refl _
  | n + 1, k, W, z, ⟨_, _, _, _, h, _⟩ => h
theorem Rdk_ext {gw gt gn gb gw' gt' gn' gb' : Nat → Int32} : ∀ {n : Nat} {k : Int} {W : List (Bool × Nat)} {z : Nat}, (∀ i, i < n → gw' i = gw i ∧ gt' i = gt i ∧ gn' i = gn i ∧ gb' i = gb i) → Rdk gw gt gn gb n k W z → Rdk gw' gt' gn' gb' n k W z
  | 0, k, W, z, _, h => h
  | n + 1, k, W, z, he, ⟨c, W', z', h1, h2, h3, h4, h5⟩ => by
    obtain ⟨e1, e2, e3, e4⟩ := he n (by omega)
    exact ⟨c, W', z', by rw [e1]; exact h1, h2, by rw [e2, e3]; exact h3, by rw [e3]; exact h4, by rw [e4]; exact Rdk_ext (fun i hi => he i (by omega)) h5⟩
/-- l stands written, the stack is wanted -/
def RQ (σ : mSig) (gw gt gn gb : Nat → Int32) (n k cnt cl : Int) (l : List Nat) (b : Bool) : Prop := ∃ W z, Rdk gw gt gn gb n.toNat k W z ∧ cnt = (l.length : Int) + (z : Int) ∧ (∀ m, wf σ 5 m W → wf σ 5 (l ++ m) [(b, 0)]) ∧ (cl ≠ 0 → ∀ p, p ∈ l → p < 60)
/-- l stands written, a piece of sort b0 is wanted, then the stack -/
def RH (σ : mSig) (gw gt gn gb : Nat → Int32) (n k cnt cl : Int) (l : List Nat) (b b0 : Bool) : Prop := ∃ W z, Rdk gw gt gn gb n.toNat k W z ∧ cnt = (l.length : Int) + (z : Int) ∧ (∀ m, wf σ 5 m ((b0, k.toNat) :: W) → wf σ 5 (l ++ m) [(b, 0)]) ∧ (cl ≠ 0 → ∀ p, p ∈ l → p < 60)
theorem RH_cnt {σ : mSig} {gw gt gn gb : Nat → Int32} {n k cnt cnt' cl : Int} {l : List Nat} {b b0 : Bool} (h : RH σ gw gt gn gb n k cnt cl l b b0) (e : cnt' = cnt) : RH σ gw gt gn gb n k cnt' cl l b b0 := by rw [e]; exact h
theorem RH_len {σ : mSig} {gw gt gn gb : Nat → Int32} {n k cnt cl : Int} {l : List Nat} {b b0 : Bool} (h : RH σ gw gt gn gb n k cnt cl l b b0) : (l.length : Int) ≤ cnt := by
  obtain ⟨W, z, h1, h2, h3, h4⟩ := h
  omega
theorem RH_0 {σ : mSig} {gw gt gn gb : Nat → Int32} {cl : Int} {b : Bool} : RH σ gw gt gn gb 0 0 0 cl [] b b := ⟨[], 0, ⟨rfl, rfl, rfl⟩, rfl, fun _ z => z, fun _ p hp => by cases hp⟩
theorem RH_00 {σ : mSig} {gw gt gn gb : Nat → Int32} {n k cnt cl : Int} {b : Bool} (hn : n = 0) (hk : k = 0) (hc : cnt = 0) : RH σ gw gt gn gb n k cnt cl [] b b := by
  subst hn; subst hk; subst hc; exact RH_0
/-- a piece taken, its children on the stack -/
theorem RQ_c {σ : mSig} {gw gt gn gb gw' gt' gn' gb' : Nat → Int32} {n k k' n' cnt cnt' cl cl' w : Int} {l : List Nat} {c : Nat} {b b0 : Bool} (h : RH σ gw gt gn gb n k cnt cl l b b0) (hn : 0 ≤ n) (hk : k ≤ 5) (hs : kS σ b0 c = some (List.replicate w.toNat (decide (gt' n.toNat = 0)))) (hw0 : 0 ≤ w) (hw : (gw' n.toNat).toInt = w) (hno : gn' n.toNat = 0) (hb : k' = k + if c = 4 ∨ c = 5 then 1 else 0) (h5 : gb' n.toNat = 0 ↔ ¬ (c = 4 ∨ c = 5)) (he : ∀ i, i < n.toNat → gw' i = gw i ∧ gt' i = gt i ∧ gn' i = gn i ∧ gb' i = gb i) (hn' : n' = n + 1) (hc' : cnt' = cnt + 1) (hcl' : cl' = cl) (hcl : cl ≠ 0 → c < 60) : RQ σ gw' gt' gn' gb' n' k' cnt' cl' (l ++ [c]) b := by
  obtain ⟨W, z, h1, h2, h3, h4⟩ := h
  have hk0 := Rdk_nn h1
  have hlev : (if c = 4 ∨ c = 5 then k.toNat + 1 else k.toNat) = k'.toNat := by
    split at hb
    · next q => rw [if_pos q]; omega
    · next q => rw [if_neg q]; omega
  refine ⟨List.replicate w.toNat (decide (gt' n.toNat = 0), k'.toNat) ++ W, z, ?_, by rw [hc', h2, l1c]; omega, fun m hm => ?_, fun q p hp => ?_⟩
  · rw [show n'.toNat = n.toNat + 1 from by omega]
    refine ⟨w.toNat, W, z, by rw [hw]; omega, by split at hb <;> omega, by rw [if_pos hno]; rfl, by rw [if_pos hno]; omega, ?_⟩
    have : (k' - if gb' n.toNat = 0 then 0 else 1) = k := by
      by_cases q : c = 4 ∨ c = 5
      · rw [if_neg (fun q' => (h5.mp q') q), hb, if_pos q]; omega
      · rw [if_pos (h5.mpr q), hb, if_neg q]; omega
    rw [this]
    exact Rdk_ext he h1
  · rw [List.append_assoc]
    refine h3 ([c] ++ m) (wf_c (by omega) hs ?_)
    rw [kL_rep, hlev]
    exact hm
  · rcases List.mem_append.mp hp with hp | hp
    · exact h4 (by rw [← hcl']; exact q) p hp
    · rw [List.mem_singleton] at hp
      rw [hp]
      exact hcl (by rw [← hcl']; exact q)
/-- a not: imp, its formula, later a false -/
theorem RQ_not {σ : mSig} {gw gt gn gb gw' gt' gn' gb' : Nat → Int32} {n k k' n' cnt cnt' cl cl' : Int} {l : List Nat} {c : Nat} {b : Bool} (h : RH σ gw gt gn gb n k cnt cl l b true) (hn : 0 ≤ n) (hk : k ≤ 5) (hc : c = 3) (hw : (gw' n.toNat).toInt = 1) (ht : gt' n.toNat = 0) (hno : gn' n.toNat ≠ 0) (hb : k' = k) (h5 : gb' n.toNat = 0) (he : ∀ i, i < n.toNat → gw' i = gw i ∧ gt' i = gt i ∧ gn' i = gn i ∧ gb' i = gb i) (hn' : n' = n + 1) (hc' : cnt' = cnt + 2) (hcl' : cl' = cl) : RQ σ gw' gt' gn' gb' n' k' cnt' cl' (l ++ [c]) b := by
  obtain ⟨W, z, h1, h2, h3, h4⟩ := h
  subst hc
  have hk0 := Rdk_nn h1
  refine ⟨List.replicate 1 (true, k'.toNat) ++ ([(true, k'.toNat)] ++ W), 1 + z, ?_, by rw [hc', h2, l1c]; omega, fun m hm => ?_, fun q p hp => ?_⟩
  · rw [show n'.toNat = n.toNat + 1 from by omega]
    refine ⟨1, W, z, by rw [hw]; rfl, by omega, by rw [if_neg hno, ht]; rfl, by rw [if_neg hno], ?_⟩
    rw [h5, if_pos rfl, hb, show k - 0 = k from by omega]
    exact Rdk_ext he h1
  · rw [List.append_assoc]
    refine h3 ([3] ++ m) (wf_c (by omega) (kS_f2 (by decide) (by decide)) ?_)
    rw [hb] at hm
    exact hm
  · rcases List.mem_append.mp hp with hp | hp
    · exact h4 (by rw [← hcl']; exact q) p hp
    · rw [List.mem_singleton] at hp
      rw [hp]
      decide
theorem RQ_top {σ : mSig} {gw gt gn gb : Nat → Int32} {n k cnt cl : Int} {l : List Nat} {b : Bool} (h : RQ σ gw gt gn gb n k cnt cl l b) (hn : 0 < n) : 0 ≤ k - (if gb (n - 1).toNat = 0 then 0 else 1) ∧ 0 ≤ (gw (n - 1).toNat).toInt ∧ (gn (n - 1).toNat ≠ 0 → (l.length : Int) + 1 ≤ cnt) := by
  obtain ⟨W, z, h1, h2, h3, h4⟩ := h
  rw [show n.toNat = (n - 1).toNat + 1 from by omega] at h1
  obtain ⟨c, W', z', e1, e2, e3, e4, e5⟩ := h1
  refine ⟨Rdk_nn e5, by omega, fun q => ?_⟩
  rw [if_neg q] at e4
  omega
theorem RQ_pop {σ : mSig} {gw gt gn gb : Nat → Int32} {n k cnt cl : Int} {l : List Nat} {b : Bool} (h : RQ σ gw gt gn gb n k cnt cl l b) (hn : 0 < n) (h0 : (gw (n - 1).toNat).toInt = 0) (hno : gn (n - 1).toNat = 0) : RQ σ gw gt gn gb (n - 1) (k - if gb (n - 1).toNat = 0 then 0 else 1) cnt cl l b := by
  obtain ⟨W, z, h1, h2, h3, h4⟩ := h
  rw [show n.toNat = (n - 1).toNat + 1 from by omega] at h1
  obtain ⟨c, W', z', e1, e2, e3, e4, e5⟩ := h1
  rw [if_pos hno] at e3 e4
  have : c = 0 := by omega
  subst this
  have e3 : W = W' := e3
  subst e3
  exact ⟨W, z', e5, by omega, h3, h4⟩
theorem RQ_popn {σ : mSig} {gw gt gn gb : Nat → Int32} {n k cnt cl : Int} {l : List Nat} {b : Bool} (h : RQ σ gw gt gn gb n k cnt cl l b) (hn : 0 < n) (hk : k ≤ 5) (h0 : (gw (n - 1).toNat).toInt = 0) (hno : gn (n - 1).toNat ≠ 0) : RQ σ gw gt gn gb (n - 1) (k - if gb (n - 1).toNat = 0 then 0 else 1) cnt cl (l ++ [0]) b := by
  obtain ⟨W, z, h1, h2, h3, h4⟩ := h
  rw [show n.toNat = (n - 1).toNat + 1 from by omega] at h1
  obtain ⟨c, W', z', e1, e2, e3, e4, e5⟩ := h1
  rw [if_neg hno] at e3 e4
  have : c = 0 := by omega
  subst this
  have e3 : W = (true, k.toNat) :: W' := e3
  subst e3
  refine ⟨W', z', e5, by rw [l1c]; omega, fun m hm => ?_, fun q p hp => ?_⟩
  · rw [List.append_assoc]
    exact h3 ([0] ++ m) (wf_c (by omega) kS_f0 hm)
  · rcases List.mem_append.mp hp with hp | hp
    · exact h4 q p hp
    · rw [List.mem_singleton] at hp
      rw [hp]
      decide
theorem RQ_k {σ : mSig} {gw gt gn gb : Nat → Int32} {n n' k k' cnt cnt' cl cl' : Int} {l : List Nat} {b : Bool} (h : RQ σ gw gt gn gb n k cnt cl l b) (e1 : n' = n) (e2 : k' = k) (e3 : cnt' = cnt) (e4 : cl' = cl) : RQ σ gw gt gn gb n' k' cnt' cl' l b := by rw [e1, e2, e3, e4]; exact h
theorem RQ_end {σ : mSig} {gw gt gn gb : Nat → Int32} {n k cnt cl : Int} {l : List Nat} {b : Bool} (h : RQ σ gw gt gn gb n k cnt cl l b) (hn : n = 0) : wf σ 5 l [(b, 0)] ∧ (cl ≠ 0 → ∀ p, p ∈ l → p < 60) := by
  subst hn
  obtain ⟨W, z, h1, h2, h3, h4⟩ := h
  obtain ⟨e1, e2, e3⟩ : k = 0 ∧ W = [] ∧ z = 0 := h1
  subst e2
  have := h3 [] rfl
  rw [List.append_nil] at this
  exact ⟨this, h4⟩
theorem RQ_next {σ : mSig} {gw gt gn gb gw' : Nat → Int32} {n n' k k' cnt cnt' cl cl' : Int} {l : List Nat} {b : Bool} (h : RQ σ gw gt gn gb n k cnt cl l b) (hn : 0 < n) (h0 : (gw (n - 1).toNat).toInt ≠ 0) (he : ∀ i, i < (n - 1).toNat → gw' i = gw i) (hd : (gw' (n - 1).toNat).toInt = (gw (n - 1).toNat).toInt - 1) (e1 : n' = n) (e2 : k' = k) (e3 : cnt' = cnt) (e4 : cl' = cl) : RH σ gw' gt gn gb n' k' cnt' cl' l b (decide (gt (n - 1).toNat = 0)) := by
  subst e1; subst e2; subst e3; subst e4
  obtain ⟨W, z, h1, h2, h3, h4⟩ := h
  have h1' := h1
  rw [show n'.toNat = (n' - 1).toNat + 1 from by omega] at h1
  obtain ⟨c, W', z', a1, a2, a3, a4, a5⟩ := h1
  obtain ⟨c', rfl⟩ : ∃ c', c = c' + 1 := ⟨c - 1, by omega⟩
  rw [List.replicate_succ, List.cons_append] at a3
  subst a3
  refine ⟨_, z, ?_, h2, h3, h4⟩
  rw [show n'.toNat = (n' - 1).toNat + 1 from by omega]
  exact ⟨c', W', z', by rw [hd, a1]; omega, a2, rfl, a4, Rdk_ext (fun i hi => ⟨he i hi, rfl, rfl, rfl⟩) a5⟩
theorem kS_push {σ : mSig} {c : Nat} {w : Int} {g : Int32} (h : (c = 0 ∧ w = 0) ∨ (1 ≤ c ∧ c ≤ 3 ∧ w = 2 ∧ g = 0) ∨ (c = 6 ∧ w = 2 ∧ g ≠ 0) ∨ (10 ≤ c ∧ c < 10 + σ.1.1 ∧ w = σ.2.1 (c - 10) ∧ g ≠ 0)) : kS σ true c = some (List.replicate w.toNat (decide (g = 0))) := by
  rcases h with ⟨rfl, rfl⟩ | ⟨h1, h2, rfl, h3⟩ | ⟨rfl, rfl, h3⟩ | ⟨h1, h2, rfl, h3⟩
  · rfl
  · rw [kS_f2 h1 h2, h3]; rfl
  · rw [kS_f6, decide_eq_false h3]; rfl
  · rw [kS_fr h1 h2, decide_eq_false h3]; rfl
theorem kS_pusht {σ : mSig} {c : Nat} {w : Int} {g : Int32} (hF : σ.1.2 ≤ 4) (hg : g ≠ 0) (h : (40 ≤ c ∧ c < 72 ∧ w = 0) ∨ (20 ≤ c ∧ c < 20 + σ.1.2 ∧ w = σ.2.2 (c - 20))) : kS σ false c = some (List.replicate w.toNat (decide (g = 0))) := by
  rcases h with ⟨h1, h2, rfl⟩ | ⟨h1, h2, rfl⟩
  · rw [kS_tx hF h1 h2]; rfl
  · rw [kS_tf h1 h2, decide_eq_false hg]; rfl
theorem kS_push4 {σ : mSig} {c : Nat} {w : Int} {g : Int32} (hc : c = 4 ∨ c = 5) (hw : w = 1) (hg : g = 0) : kS σ true c = some (List.replicate w.toNat (decide (g = 0))) := by
  rw [kS_f1 hc, hw, hg]; rfl
theorem RQ_nn {σ : mSig} {gw gt gn gb : Nat → Int32} {n k cnt cl : Int} {l : List Nat} {b : Bool} (h : RQ σ gw gt gn gb n k cnt cl l b) : 0 ≤ k := by
  obtain ⟨W, z, h1, h2, h3, h4⟩ := h
  exact Rdk_nn h1
theorem x0 {a : Int32} (h : a.toInt = 0) : a = 0 := Int32.toInt_inj.mp (h.trans Int32.toInt_zero.symm)
theorem xO1 {a : Int32} (h : a.toInt = 1) : a = 1 := Int32.toInt_inj.mp (h.trans xone.symm)
theorem kqc {g : Int32} {k : Int} : (g.toInt = 0 ∧ (k - if g = 0 then 0 else 1) = k) ∨ (g.toInt ≠ 0 ∧ (k - if g = 0 then 0 else 1) = k - 1) := by
  by_cases h : g = 0
  · left
    refine ⟨by rw [h]; rfl, ?_⟩
    rw [if_pos h]
    omega
  · right
    refine ⟨fun z => h (x0 z), ?_⟩
    rw [if_neg h]
