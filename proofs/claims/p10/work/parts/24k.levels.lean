/-! models: levels at each place, values on the stack -/
def wr (σ : mSig) : List Nat → List (Bool × Nat) → List (Bool × Nat) → Prop
  | [], W, W' => W = W'
  | p :: l, W, W' => match W with
    | [] => False
    | w :: V => match kS σ w.1 p with
      | some ks => wr σ l (kL p w.2 ks ++ V) W'
      | none => False
theorem wr_cons {σ : mSig} {p : Nat} {l : List Nat} {W W' : List (Bool × Nat)} : wr σ (p :: l) W W' ↔ ∃ b k V ks, W = (b, k) :: V ∧ kS σ b p = some ks ∧ wr σ l (kL p k ks ++ V) W' := by
  cases W with
  | nil => exact ⟨fun h => h.elim, fun ⟨_, _, _, _, h, _⟩ => by cases h⟩
  | cons w V =>
    obtain ⟨b, k⟩ := w
    constructor
    · intro h
      unfold wr at h
      dsimp only at h
      split at h
      · next ks hk => exact ⟨b, k, V, ks, rfl, hk, h⟩
      · exact h.elim
    · rintro ⟨b', k', V', ks, e, hk, h⟩
      cases e
      unfold wr
      dsimp only
      rw [hk]
      exact h
theorem wr_un {σ : mSig} : ∀ {l : List Nat} {W W1 W2 : List (Bool × Nat)}, wr σ l W W1 → wr σ l W W2 → W1 = W2
  | [], W, W1, W2, h1, h2 => by
    have h1 : W = W1 := h1
    have h2 : W = W2 := h2
    rw [← h1, ← h2]
  | p :: l, W, W1, W2, h1, h2 => by
    obtain ⟨b, k, V, ks, rfl, hk, h⟩ := wr_cons.mp h1
    obtain ⟨b', k', V', ks', e, hk', h'⟩ := wr_cons.mp h2
    cases e
    rw [hk] at hk'
    cases hk'
    exact wr_un h h'
theorem wr_snoc {σ : mSig} : ∀ {l : List Nat} {p : Nat} {W : List (Bool × Nat)} {b : Bool} {k : Nat} {V : List (Bool × Nat)} {ks : List Bool}, wr σ l W ((b, k) :: V) → kS σ b p = some ks → wr σ (l ++ [p]) W (kL p k ks ++ V)
  | [], p, W, b, k, V, ks, h, hk => by
    have h : W = (b, k) :: V := h
    subst h
    exact wr_cons.mpr ⟨b, k, V, ks, rfl, hk, rfl⟩
  | q :: l, p, W, b, k, V, ks, h, hk => by
    obtain ⟨b', k', V', ks', rfl, hk', h'⟩ := wr_cons.mp h
    exact wr_cons.mpr ⟨b', k', V', ks', rfl, hk', wr_snoc h' hk⟩
theorem wr_last {σ : mSig} : ∀ {l : List Nat} {p : Nat} {W W' : List (Bool × Nat)}, wr σ (l ++ [p]) W W' → ∃ b k V ks, wr σ l W ((b, k) :: V) ∧ kS σ b p = some ks ∧ W' = kL p k ks ++ V
  | [], p, W, W', h => by
    obtain ⟨b, k, V, ks, rfl, hk, h'⟩ := wr_cons.mp (show wr σ (p :: []) W W' from h)
    exact ⟨b, k, V, ks, rfl, hk, (show kL p k ks ++ V = W' from h').symm⟩
  | q :: l, p, W, W', h => by
    obtain ⟨b, k, V, ks, rfl, hk, h'⟩ := wr_cons.mp (show wr σ (q :: (l ++ [p])) W W' from h)
    obtain ⟨b2, k2, V2, ks2, h1, h2, h3⟩ := wr_last h'
    exact ⟨b2, k2, V2, ks2, wr_cons.mpr ⟨b, k, V, ks, rfl, hk, h1⟩, h2, h3⟩
theorem wf_wr {σ : mSig} {c : Nat} : ∀ {l m : List Nat} {W : List (Bool × Nat)}, wf σ c (l ++ m) W → ∃ W', wr σ l W W' ∧ wf σ c m W'
  | [], m, W, h => ⟨W, rfl, h⟩
  | p :: l, m, W, h => by
    obtain ⟨b, k, W', ks, rfl, hc, hk, hw⟩ := wf_cons.mp (show wf σ c (p :: (l ++ m)) W from h)
    obtain ⟨W2, h1, h2⟩ := wf_wr hw
    exact ⟨W2, wr_cons.mpr ⟨b, k, W', ks, rfl, hk, h1⟩, h2⟩
theorem wr_wf {σ : mSig} {c : Nat} {l m : List Nat} {W W' : List (Bool × Nat)} (h : wf σ c (l ++ m) W) (hr : wr σ l W W') : wf σ c m W' := by
  obtain ⟨W2, h1, h2⟩ := wf_wr h
  rw [wr_un hr h1]
  exact h2
theorem wf_nil {σ : mSig} {c : Nat} {l : List Nat} (h : wf σ c l []) : l = [] := by
  cases l with
  | nil => rfl
  | cons p l' => exact h.elim
/-- the depth at each place of l -/
def DLn (σ : mSig) (gd : Nat → Int32) (l : List Nat) (n : Int) : Prop := ∀ l1 c l2 b k V, l = l1 ++ c :: l2 → (l1.length : Int) < n → wr σ l1 [(true, 0)] ((b, k) :: V) → (gd l1.length).toInt = (k : Int)
theorem DL_0 {σ : mSig} {gd : Nat → Int32} {l : List Nat} {n : Int} (h : n = 0) : DLn σ gd l n := fun l1 c l2 b k V _ hn _ => by omega
theorem DL_put {σ : mSig} {gd gd' : Nat → Int32} {l l1 l2 : List Nat} {c : Nat} {n n' : Int} {b : Bool} {k : Nat} {V : List (Bool × Nat)} (h : DLn σ gd l n) (e : l = l1 ++ c :: l2) (hn : n = (l1.length : Int)) (hn' : n' = n + 1) (hr : wr σ l1 [(true, 0)] ((b, k) :: V)) (hd : (gd' l1.length).toInt = (k : Int)) (ho : ∀ j, j ≠ l1.length → gd' j = gd j) : DLn σ gd' l n' := by
  intro m1 d m2 b' k' V' e' hm hr'
  by_cases q : m1.length = l1.length
  · have e1 : m1 = l1 := by
      rw [e] at e'
      exact (List.append_inj e' q.symm).1.symm
    subst e1
    have := wr_un hr hr'
    cases this
    exact hd
  · rw [ho _ q]
    exact h m1 d m2 b' k' V' e' (by omega) hr'
/-- where the quantifiers around end -/
def QS (σ : mSig) (gl : Nat → Int32) : Nat → List Nat → Int → List (Bool × Nat) → Prop
  | 0, _, _, W => ∀ w, w ∈ W → w.2 = 0
  | n + 1, l, i, W => ∃ W1 W2 p q, W = W1 ++ W2 ∧ (∀ w, w ∈ W1 → w.2 = n + 1) ∧ l = p ++ q ∧ wf σ 5 p W1 ∧ (gl n).toInt = i + (p.length : Int) ∧ QS σ gl n q (i + (p.length : Int)) W2
theorem QS_ext {σ : mSig} {gl gl' : Nat → Int32} : ∀ {n : Nat} {l : List Nat} {i : Int} {W : List (Bool × Nat)}, (∀ j, j < n → gl' j = gl j) → QS σ gl n l i W → QS σ gl' n l i W
  | 0, l, i, W, _, h => h
  | n + 1, l, i, W, he, ⟨W1, W2, p, q, h1, h2, h3, h4, h5, h6⟩ => ⟨W1, W2, p, q, h1, h2, h3, h4, by rw [he n (by omega)]; exact h5, QS_ext (fun j hj => he j (by omega)) h6⟩
theorem QS_pop {σ : mSig} {gl : Nat → Int32} {n : Nat} {l : List Nat} {i : Int} {W : List (Bool × Nat)} (h : QS σ gl (n + 1) l i W) (hi : (gl n).toInt ≤ i) : QS σ gl n l i W := by
  obtain ⟨W1, W2, p, q, h1, h2, h3, h4, h5, h6⟩ := h
  have hp : p = [] := lnil (by omega)
  subst hp
  have hW : W1 = [] := h4
  subst hW
  rw [List.nil_append] at h1 h3
  rw [h1, h3]
  have : i + (([] : List Nat).length : Int) = i := by rw [List.length_nil]; omega
  rw [this] at h6
  exact h6
theorem QS_head {σ : mSig} {gl : Nat → Int32} {n : Nat} {l : List Nat} {i : Int} {b : Bool} {k : Nat} {V : List (Bool × Nat)} (h : QS σ gl n l i ((b, k) :: V)) (hn : n = 0 ∨ i < (gl (n - 1)).toInt) : k = n := by
  cases n with
  | zero => exact h (b, k) List.mem_cons_self
  | succ n =>
    obtain ⟨W1, W2, p, q, h1, h2, h3, h4, h5, h6⟩ := h
    have hi : i < (gl n).toInt := by
      rcases hn with z | z
      · omega
      · exact z
    cases W1 with
    | nil =>
      have := wf_nil h4
      rw [this, List.length_nil] at h5
      omega
    | cons w W1 =>
      cases h1
      exact h2 _ List.mem_cons_self
/-- a piece that is no quantifier -/
theorem QS_c {σ : mSig} {gl : Nat → Int32} {n c : Nat} {l : List Nat} {i i' : Int} {b : Bool} {ks : List Bool} {V : List (Bool × Nat)} (h : QS σ gl n (c :: l) i ((b, n) :: V)) (hn : n = 0 ∨ i < (gl (n - 1)).toInt) (hc : ¬ (c = 4 ∨ c = 5)) (hk : kS σ b c = some ks) (hi : i' = i + 1) : QS σ gl n l i' (kL c n ks ++ V) := by
  subst hi
  have hL : ∀ w, w ∈ kL c n ks → w.2 = n := by
    intro w hw
    unfold kL at hw
    rw [List.mem_map] at hw
    obtain ⟨a, -, rfl⟩ := hw
    exact if_neg hc
  cases n with
  | zero =>
    intro w hw
    rcases List.mem_append.mp hw with hw | hw
    · exact hL w hw
    · exact h w (List.mem_cons_of_mem _ hw)
  | succ n =>
    obtain ⟨W1, W2, p, q, h1, h2, h3, h4, h5, h6⟩ := h
    have hi : i < (gl n).toInt := by
      rcases hn with z | z
      · omega
      · exact z
    cases p with
    | nil => rw [List.length_nil] at h5; omega
    | cons d p =>
      rw [List.cons_append] at h3
      cases h3
      cases W1 with
      | nil => cases h4
      | cons w W1 =>
        rw [List.cons_append] at h1
        cases h1
        obtain ⟨b', k', W', ks', e, -, hk', hw⟩ := wf_cons.mp h4
        cases e
        rw [hk] at hk'
        cases hk'
        rw [llenc] at h5 h6
        refine ⟨kL c (n + 1) ks ++ W1, W2, p, q, by rw [List.append_assoc], fun w hw => ?_, rfl, hw, by omega, ?_⟩
        · rcases List.mem_append.mp hw with hw | hw
          · exact hL w hw
          · exact h2 w (List.mem_cons_of_mem _ hw)
        · rw [show i + 1 + (p.length : Int) = i + ((p.length : Int) + 1) from by omega]
          exact h6
/-- a quantifier -/
theorem QS_q {σ : mSig} {gl : Nat → Int32} {n c : Nat} {l : List Nat} {i : Int} {V : List (Bool × Nat)} (h : QS σ gl n (c :: l) i ((true, n) :: V)) (hn : n = 0 ∨ i < (gl (n - 1)).toInt) (hc : c = 4 ∨ c = 5) (hw : wf σ 5 (c :: l) ((true, n) :: V)) : ∃ body rest, l = body ++ rest ∧ wf σ 5 body [(true, n + 1)] ∧ n ≤ 4 ∧ ∀ gl' : Nat → Int32, (∀ j, j < n → gl' j = gl j) → (gl' n).toInt = i + 1 + (body.length : Int) → QS σ gl' (n + 1) l (i + 1) (kL c n [true] ++ V) := by
  have hkL : kL c n [true] = [(true, n + 1)] := by
    unfold kL
    rw [List.map_cons, if_pos hc]; rfl
  have h5 : ∀ {bd : List Nat}, wf σ 5 bd [(true, n + 1)] → n ≤ 4 := by
    intro bd hb
    obtain ⟨d, bd', rfl⟩ := (show ∃ d bd', bd = d :: bd' from by
      cases bd with
      | nil => cases hb
      | cons d bd' => exact ⟨d, bd', rfl⟩)
    obtain ⟨b', k', W', ks', e, h1, -, -⟩ := wf_cons.mp hb
    cases e
    omega
  cases n with
  | zero =>
    obtain ⟨b', k', W', ks', e, -, hk', hw'⟩ := wf_cons.mp hw
    cases e
    rw [kS_f1 hc] at hk'
    cases hk'
    rw [hkL] at hw'
    obtain ⟨body, rest, e1, e2, e3⟩ := wf_split hw'
    refine ⟨body, rest, e1, e2, by omega, fun gl' he hg => ⟨[(true, 1)], V, body, rest, by rw [hkL], fun w hw => ?_, e1, e2, by rw [hg], fun w hw => h w (List.mem_cons_of_mem _ hw)⟩⟩
    rw [List.mem_singleton] at hw
    rw [hw]
  | succ n =>
    obtain ⟨W1, W2, p, q, h1, h2, h3, h4, h5', h6⟩ := h
    have hi : i < (gl n).toInt := by
      rcases hn with z | z
      · omega
      · exact z
    cases p with
    | nil => rw [List.length_nil] at h5'; omega
    | cons d p =>
      rw [List.cons_append] at h3
      cases h3
      cases W1 with
      | nil => cases h4
      | cons w W1 =>
        rw [List.cons_append] at h1
        cases h1
        obtain ⟨b', k', W', ks', e, -, hk', hw'⟩ := wf_cons.mp h4
        cases e
        rw [kS_f1 hc] at hk'
        cases hk'
        rw [hkL] at hw'
        obtain ⟨body, p2, e1, e2, e3⟩ := wf_split hw'
        rw [llenc] at h5' h6
        refine ⟨body, p2 ++ q, by rw [e1, List.append_assoc], e2, h5 e2, fun gl' he hg => ⟨[(true, n + 1 + 1)], W1 ++ W2, body, p2 ++ q, by rw [hkL], fun w hw => ?_, by rw [e1, List.append_assoc], e2, by rw [hg], ?_⟩⟩
        · rw [List.mem_singleton] at hw
          rw [hw]
        · have e4 : (p.length : Int) = body.length + p2.length := by rw [e1]; exact llen
          refine ⟨W1, W2, p2, q, rfl, fun w hw => h2 w (List.mem_cons_of_mem _ hw), rfl, e3, by rw [he n (by omega)]; omega, ?_⟩
          rw [show i + 1 + (body.length : Int) + (p2.length : Int) = i + ((p.length : Int) + 1) from by omega]
          exact QS_ext (fun j hj => he j (by omega)) h6
/-- terms on the stack have values that are things -/
def VS (gv : Nat → Int32) (nn : Int) : List (Bool × Nat) → Prop
  | [] => True
  | w :: W => (w.1 = false → ∀ e : Nat, (e : Int) < nn ^ w.2 → 0 ≤ (gv (243 * W.length + e)).toInt ∧ (gv (243 * W.length + e)).toInt ≤ 2) ∧ VS gv nn W
theorem VS_ext {gv gv' : Nat → Int32} {nn : Int} : ∀ {W : List (Bool × Nat)}, (∀ j, j < 243 * W.length → gv' j = gv j) → (∀ w, w ∈ W → nn ^ w.2 ≤ 243) → VS gv nn W → VS gv' nn W
  | [], _, _, _ => trivial
  | w :: W, he, hw, ⟨h1, h2⟩ => by
    rw [List.length_cons] at he
    refine ⟨fun q e hE => ?_, VS_ext (fun j hj => he j (by omega)) (fun w' h' => hw w' (List.mem_cons_of_mem _ h')) h2⟩
    have := hw w List.mem_cons_self
    rw [he _ (by omega)]
    exact h1 q e hE
theorem VS_tail {gv : Nat → Int32} {nn : Int} : ∀ {A V : List (Bool × Nat)}, VS gv nn (A ++ V) → VS gv nn V
  | [], V, h => h
  | a :: A, V, h => VS_tail h.2
theorem xdivr {a b : Int32} (ha : 0 ≤ a.toInt) (hb : 1 ≤ b.toInt) : (a / b).toInt = a.toInt / b.toInt := by
  rw [Int32.toInt_div, Int.tdiv_eq_ediv_of_nonneg ha]
  have h1 : 0 ≤ a.toInt / b.toInt := Int.ediv_nonneg ha (by omega)
  have h2 : a.toInt / b.toInt ≤ a.toInt := Int.ediv_le_self _ ha
  have := Int32.toInt_lt a
  exact Int.bmod_eq_of_le (by omega) (by omega)
theorem xdiv0 {a b : Int32} (ha : 0 ≤ a.toInt) (hb : 1 ≤ b.toInt) : 0 ≤ (a / b).toInt := by
  rw [xdivr ha hb]
  exact Int.ediv_nonneg ha (by omega)
theorem xmodr {a b : Int32} (ha : 0 ≤ a.toInt) (hb : 1 ≤ b.toInt) : (a - (a / b) * b).toInt = a.toInt % b.toInt := by
  have e1 := xdivr ha hb
  have hm := Int.emod_add_mul_ediv a.toInt b.toInt
  have h3 : 0 ≤ a.toInt % b.toInt := Int.emod_nonneg _ (by omega)
  have h4 : 0 ≤ b.toInt * (a.toInt / b.toInt) := Int.mul_nonneg (by omega) (Int.ediv_nonneg ha (by omega))
  have h5 := Int32.toInt_lt a
  have e2 : ((a / b) * b).toInt = b.toInt * (a.toInt / b.toInt) := by
    rw [Int32.toInt_mul, e1, Int.mul_comm]
    exact Int.bmod_eq_of_le (by omega) (by omega)
  rw [Int32.toInt_sub, e2]
  rw [show a.toInt - b.toInt * (a.toInt / b.toInt) = a.toInt % b.toInt from by omega]
  have h6 : a.toInt % b.toInt < b.toInt := Int.emod_lt_of_pos _ (by omega)
  have := Int32.toInt_lt b
  exact Int.bmod_eq_of_le (by omega) (by omega)
theorem xmod2 {a b : Int32} (ha : 0 ≤ a.toInt) (hb : 1 ≤ b.toInt) (hb3 : b.toInt ≤ 3) : 0 ≤ (a - (a / b) * b).toInt ∧ (a - (a / b) * b).toInt ≤ 2 := by
  rw [xmodr ha hb]
  have h3 : 0 ≤ a.toInt % b.toInt := Int.emod_nonneg _ (by omega)
  have h6 : a.toInt % b.toInt < b.toInt := Int.emod_lt_of_pos _ (by omega)
  omega
theorem pw9 {n : Int} {k : Nat} (h1 : 1 ≤ n) (h3 : n ≤ 3) (hk : k ≤ 2) : 1 ≤ n ^ k ∧ n ^ k ≤ 9 := by
  rcases (show n = 1 ∨ n = 2 ∨ n = 3 from by omega) with z | z | z <;> rcases (show k = 0 ∨ k = 1 ∨ k = 2 from by omega) with q | q | q <;> subst z <;> subst q <;> decide
theorem pw243 {n : Int} {k : Nat} (h1 : 1 ≤ n) (h3 : n ≤ 3) (hk : k ≤ 5) : 1 ≤ n ^ k ∧ n ^ k ≤ 243 := by
  rcases (show n = 1 ∨ n = 2 ∨ n = 3 from by omega) with z | z | z <;> rcases (show k = 0 ∨ k = 1 ∨ k = 2 ∨ k = 3 ∨ k = 4 ∨ k = 5 from by omega) with q | q | q | q | q | q <;> subst z <;> subst q <;> decide
theorem pwpos {n : Int} {k : Nat} (h1 : 1 ≤ n) : 1 ≤ n ^ k := by
  have := Int.pow_pos (n := n) (m := k) (by omega)
  omega
theorem mul3 {a b : Int32} (ha : 1 ≤ a.toInt ∧ a.toInt ≤ 4096) (hb : 1 ≤ b.toInt ∧ b.toInt ≤ 3) : 1 ≤ (a * b).toInt ∧ (a * b).toInt ≤ 12288 := by
  have e : (a * b).toInt = a.toInt * b.toInt := by
    rw [Int32.toInt_mul]
    rcases (show b.toInt = 1 ∨ b.toInt = 2 ∨ b.toInt = 3 from by omega) with z | z | z <;> rw [z] <;> exact Int.bmod_eq_of_le (by omega) (by omega)
  rw [e]
  rcases (show b.toInt = 1 ∨ b.toInt = 2 ∨ b.toInt = 3 from by omega) with z | z | z <;> rw [z] <;> omega
theorem mul33 {a b : Int32} (ha : 0 ≤ a.toInt ∧ a.toInt ≤ 243) (hb : 1 ≤ b.toInt ∧ b.toInt ≤ 3) : (a * b).toInt = a.toInt * b.toInt ∧ a.toInt ≤ a.toInt * b.toInt ∧ a.toInt * b.toInt ≤ 3 * a.toInt := by
  have e : (a * b).toInt = a.toInt * b.toInt := by
    rw [Int32.toInt_mul]
    rcases (show b.toInt = 1 ∨ b.toInt = 2 ∨ b.toInt = 3 from by omega) with z | z | z <;> rw [z] <;> exact Int.bmod_eq_of_le (by omega) (by omega)
  refine ⟨e, ?_⟩
  rcases (show b.toInt = 1 ∨ b.toInt = 2 ∨ b.toInt = 3 from by omega) with z | z | z <;> rw [z] <;> constructor <;> omega
theorem Bs_put {g g' : Nat → Int32} {n n' : Int} {i : Nat} (h : ∀ j : Nat, (j : Int) < n → 1 ≤ (g j).toInt ∧ (g j).toInt ≤ 3) (hi : (i : Int) = n) (e : n' = n + 1) (h1 : 1 ≤ (g' i).toInt ∧ (g' i).toInt ≤ 3) (h2 : ∀ j, j ≠ i → g' j = g j) : ∀ j : Nat, (j : Int) < n' → 1 ≤ (g' j).toInt ∧ (g' j).toInt ≤ 3 := fun j hj => by
  by_cases q : j = i
  · rw [q]; exact h1
  · rw [h2 j q]; exact h j (by omega)
theorem Dg_put {g g' : Nat → Int32} {m i : Nat} (h : ∀ j : Nat, j < m → 0 ≤ (g j).toInt ∧ (g j).toInt ≤ 2) (h1 : 0 ≤ (g' i).toInt ∧ (g' i).toInt ≤ 2) (h2 : ∀ j, j ≠ i → g' j = g j) : ∀ j : Nat, j < m → 0 ≤ (g' j).toInt ∧ (g' j).toInt ≤ 2 := fun j hj => by
  by_cases q : j = i
  · rw [q]; exact h1
  · rw [h2 j q]; exact h j hj
theorem kS_q {σ : mSig} {b : Bool} {c : Nat} {ks : List Bool} (h : kS σ b c = some ks) (hc : c = 4 ∨ c = 5) : b = true ∧ ks = [true] := by
  rcases kS_cases h with ⟨rfl, hp, rfl⟩ | ⟨rfl, hp, hp', rfl⟩ | ⟨rfl, hp, rfl⟩ | ⟨rfl, hp, rfl⟩ | ⟨rfl, hp, hp', rfl⟩ | ⟨rfl, hp, hp', rfl⟩ | ⟨rfl, hp, hp', rfl⟩
  · omega
  · omega
  · exact ⟨rfl, rfl⟩
  · omega
  · omega
  · omega
  · omega
theorem wr_end {σ : mSig} {l : List Nat} {W : List (Bool × Nat)} (h : wf σ 5 l W) : wr σ l W [] := by
  obtain ⟨W', h1, h2⟩ := wf_wr (l := l) (m := []) (by rw [List.append_nil]; exact h)
  have h2 : W' = [] := h2
  subst h2
  exact h1
theorem wf_lev {σ : mSig} {c : Nat} : ∀ {l : List Nat} {W : List (Bool × Nat)}, wf σ c l W → ∀ w, w ∈ W → w.2 ≤ c
  | [], W, h, w, hw => by
    have h : W = [] := h
    subst h
    cases hw
  | p :: l, W, h, w, hw => by
    obtain ⟨b, k, W', ks, rfl, hc, hk, hw'⟩ := wf_cons.mp h
    rcases List.mem_cons.mp hw with rfl | hw
    · exact hc
    · exact wf_lev hw' w (List.mem_append_right _ hw)
theorem wf_le {σ : mSig} {c : Nat} {l : List Nat} {W : List (Bool × Nat)} (h : wf σ c l W) : W.length ≤ l.length := by
  have := ws_le (wf_ws h)
  rw [List.length_map] at this
  exact this
theorem kL_len {p k : Nat} {ks : List Bool} : (kL p k ks).length = ks.length := by
  unfold kL
  rw [List.length_map]
theorem kS_f20 {σ : mSig} {b : Bool} {c : Nat} {ks : List Bool} (h : kS σ b c = some ks) (hb : b = false) : 20 ≤ c := by
  subst hb
  rcases kS_cases h with ⟨h1, -, -⟩ | ⟨h1, -, -⟩ | ⟨h1, -, -⟩ | ⟨h1, -, -⟩ | ⟨h1, -, -⟩ | ⟨-, hp, -, -⟩ | ⟨-, hp, -, -⟩
  · cases h1
  · cases h1
  · cases h1
  · cases h1
  · cases h1
  · exact hp
  · omega
theorem kS_10 {σ : mSig} {b : Bool} {c : Nat} {ks : List Bool} (h : kS σ b c = some ks) (hc : 10 ≤ c) : ks = List.replicate ks.length false := by
  rcases kS_cases h with ⟨rfl, hp, rfl⟩ | ⟨rfl, hp, hp', rfl⟩ | ⟨rfl, hp, rfl⟩ | ⟨rfl, hp, rfl⟩ | ⟨rfl, hp, hp', rfl⟩ | ⟨rfl, hp, hp', rfl⟩ | ⟨rfl, hp, hp', rfl⟩
  · omega
  · omega
  · omega
  · omega
  · rw [List.length_replicate]
  · rw [List.length_replicate]
  · rfl
theorem VS_12 {σ : mSig} {gv : Nat → Int32} {nn : Int} {b : Bool} {c k : Nat} {ks : List Bool} {U : List (Bool × Nat)} (h : VS gv nn (kL c k ks ++ U)) (hk : kS σ b c = some ks) (hc : 10 ≤ c) (h2 : ks.length ≤ 2) : (ks.length ≠ 0 → ∀ e : Nat, (e : Int) < nn ^ k → 0 ≤ (gv (243 * (U.length + ks.length - 1) + e)).toInt ∧ (gv (243 * (U.length + ks.length - 1) + e)).toInt ≤ 2) ∧ (ks.length = 2 → ∀ e : Nat, (e : Int) < nn ^ k → 0 ≤ (gv (243 * U.length + e)).toInt ∧ (gv (243 * U.length + e)).toInt ≤ 2) := by
  rw [kS_10 hk hc, kL_rep, if_neg (by omega)] at h
  rcases (show ks.length = 0 ∨ ks.length = 1 ∨ ks.length = 2 from by omega) with z | z | z
  · exact ⟨fun q => absurd z q, fun q => by omega⟩
  · rw [z] at h
    rw [z]
    exact ⟨fun _ e he => h.1 rfl e he, fun q => by omega⟩
  · rw [z] at h
    rw [z]
    refine ⟨fun _ e he => ?_, fun _ e he => h.2.1 rfl e he⟩
    exact h.1 rfl e he
theorem q243 {n e : Int} {k : Nat} (h1 : 1 ≤ n) (h3 : n ≤ 3) (hk : k ≤ 4) (he : e < n ^ k) : e * n + n ≤ 243 := by
  have h81 : n ^ k ≤ 81 := by
    rcases (show n = 1 ∨ n = 2 ∨ n = 3 from by omega) with z | z | z <;> rcases (show k = 0 ∨ k = 1 ∨ k = 2 ∨ k = 3 ∨ k = 4 from by omega) with q | q | q | q | q <;> subst z <;> subst q <;> decide
  rcases (show n = 1 ∨ n = 2 ∨ n = 3 from by omega) with z | z | z <;> rw [z] <;> omega
theorem wf_qk {σ : mSig} {b : Bool} {c k : Nat} {m : List Nat} {U : List (Bool × Nat)} (h : wf σ 5 (c :: m) ((b, k) :: U)) (hc : c = 4 ∨ c = 5) : k ≤ 4 := by
  obtain ⟨b', k', W', ks, e, hk5, hk, hw⟩ := wf_cons.mp h
  cases e
  obtain ⟨rfl, rfl⟩ : b = true ∧ ks = [true] := by
    rcases kS_cases hk with ⟨rfl, hp, rfl⟩ | ⟨rfl, hp, hp', rfl⟩ | ⟨rfl, hp, rfl⟩ | ⟨rfl, hp, rfl⟩ | ⟨rfl, hp, hp', rfl⟩ | ⟨rfl, hp, hp', rfl⟩ | ⟨rfl, hp, hp', rfl⟩
    · omega
    · omega
    · exact ⟨rfl, rfl⟩
    · omega
    · omega
    · omega
    · omega
  have := wf_lev hw (true, k + 1) (by
    refine List.mem_append_left _ ?_
    unfold kL
    rw [List.map_cons, if_pos hc]
    exact List.mem_cons_self)
  have : k + 1 ≤ 5 := this
  omega
theorem EL_put {gv gv' : Nat → Int32} {u i : Nat} {n n' : Int} (h : ∀ e : Nat, (e : Int) < n → 0 ≤ (gv (243 * u + e)).toInt ∧ (gv (243 * u + e)).toInt ≤ 2) (hi : i = 243 * u + n.toNat) (hn : n' = n + 1) (h0 : 0 ≤ n) (h1 : 0 ≤ (gv' i).toInt ∧ (gv' i).toInt ≤ 2) (h2 : ∀ j, j ≠ i → gv' j = gv j) : ∀ e : Nat, (e : Int) < n' → 0 ≤ (gv' (243 * u + e)).toInt ∧ (gv' (243 * u + e)).toInt ≤ 2 := fun e he => by
  by_cases q : 243 * u + e = i
  · rw [q]; exact h1
  · rw [h2 _ q]; exact h e (by omega)
theorem EL_keep {gv gv' : Nat → Int32} {w i : Nat} {n n' m : Int} (h : ∀ e : Nat, n ≤ (e : Int) → (e : Int) < m → 0 ≤ (gv (w + e)).toInt ∧ (gv (w + e)).toInt ≤ 2) (hn : n ≤ n') (h2 : ∀ j, j ≠ i → gv' j = gv j) (hd : ∀ e : Nat, n' ≤ (e : Int) → (e : Int) < m → w + e ≠ i) : ∀ e : Nat, n' ≤ (e : Int) → (e : Int) < m → 0 ≤ (gv' (w + e)).toInt ∧ (gv' (w + e)).toInt ≤ 2 := fun e h3 h4 => by
  rw [h2 _ (hd e h3 h4)]
  exact h e (by omega) h4
