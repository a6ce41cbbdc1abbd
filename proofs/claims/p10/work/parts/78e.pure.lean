set_option maxRecDepth 100000
/-! proofs, pure: steps as they are told, what each comes to -/
/-- a step as it is told: its rule's word (6 same, 10 axiom to 27 classic), three numbers; the axiom, the FREE X's number; the term, the formula -/
abbrev tp_P : Type := (Nat × (Nat × (Nat × Nat))) × ((Nat × Nat) × (List Nat × List Nat))
def tp_nn (r : Nat) : Nat := if r = 6 ∨ r = 10 ∨ r = 11 then 0 else if r = 13 ∨ r = 19 ∨ r = 24 ∨ r = 25 then 2 else if r = 18 then 3 else 1
abbrev tp_hx (r : Nat) : Prop := r = 21 ∨ r = 24
abbrev tp_ht (r : Nat) : Prop := r = 6 ∨ r = 22 ∨ r = 23
abbrev tp_hf (r : Nat) : Prop := r = 11 ∨ r = 16 ∨ r = 17 ∨ r = 20 ∨ r = 23 ∨ r = 25 ∨ r = 26 ∨ r = 27
abbrev tp_ok (r : Nat) : Prop := r = 6 ∨ (10 ≤ r ∧ r ≤ 27)
def tq_np (r : Nat) : Nat := if r = 12 then 0 else tp_nn r
/-- what a step comes to: its row, what it assumes, axioms, theorems, needs -/
abbrev tq_R : Type := List Nat × (List (List Nat) × (Int32 × (Int32 × Int64)))
/-- a theorem: its row, axioms, theorems, axioms through all -/
abbrev tq_H : Type := List Nat × (Int32 × (Int32 × Int32))
def tq_r (D : List tq_R) (k : Nat) : List Nat := (D.getD k ([], [], 0, 0, 0)).1
def tq_a (D : List tq_R) (k : Nat) : List (List Nat) := (D.getD k ([], [], 0, 0, 0)).2.1
/-- the two parts of a row under one piece -/
def tq_1 (ar : Nat → Nat) (l : List Nat) : List Nat := (l.drop 1).take (en ar (l.drop 1) 1)
def tq_2 (ar : Nat → Nat) (l : List Nat) : List Nat := (l.drop 1).drop (en ar (l.drop 1) 1)
/-- a term in place of what the first piece binds -/
def tq_pi (t : List Nat) : List (Nat × Nat) → List Nat → List Nat
  | d :: D, c :: l => (if c + 1 = 40 + d.2 then t else [c]) ++ tq_pi t D l
  | _, _ => []
def tq_in (ar : Nat → Nat) (l t : List Nat) : List Nat := tq_pi t ((ly ar [(0, 0)] l).drop 1) (l.drop 1)
/-- all of it for a FREE one -/
def tq_gi (x : Nat) : List (Nat × Nat) → List Nat → List Nat
  | d :: D, c :: l => (if c = 60 + x then 40 + d.2 else c) :: tq_gi x D l
  | _, _ => []
def tq_ge (ar : Nat → Nat) (l : List Nat) (x : Nat) : List Nat := 4 :: tq_gi x (ly ar [(0, 0)] l) l
/-- f is as b, but for places where t stands for s -/
def tq_rp (s t : List Nat) : Nat → List Nat → List Nat → Prop
  | 0, b, f => b = [] ∧ f = []
  | n + 1, b, f => (b = [] ∧ f = []) ∨ (b ≠ [] ∧ f ≠ [] ∧ ((b.take s.length = s ∧ f.take t.length = t ∧ tq_rp s t n (b.drop s.length) (f.drop t.length)) ∨ (¬ (b.take s.length = s ∧ f.take t.length = t) ∧ b.head? = f.head? ∧ tq_rp s t n (b.drop 1) (f.drop 1))))
/-- what is assumed is gathered: less what is left out, no two alike, thirteen are too many -/
def tq_ga (o : List Nat) : List (List Nat) → List (List Nat) → List (List Nat)
  | A, [] => A
  | A, a :: L => tq_ga o (if 12 < A.length ∨ a = o ∨ a ∈ A then A else A ++ [a]) L
theorem tq_ga_len {o : List Nat} : ∀ {L A : List (List Nat)}, A.length ≤ 13 → (tq_ga o A L).length ≤ 13 ∧ A.length ≤ (tq_ga o A L).length
  | [], A, h => ⟨h, Nat.le_refl _⟩
  | a :: L, A, h => by
    show (tq_ga o (if 12 < A.length ∨ a = o ∨ a ∈ A then A else A ++ [a]) L).length ≤ 13 ∧ _ ≤ (tq_ga o (if 12 < A.length ∨ a = o ∨ a ∈ A then A else A ++ [a]) L).length
    split
    · exact tq_ga_len h
    · next z =>
      have h2 : (A ++ [a]).length = A.length + 1 := List.length_append
      obtain ⟨g1, g2⟩ := tq_ga_len (o := o) (L := L) (A := A ++ [a]) (by omega)
      exact ⟨g1, by omega⟩
theorem tq_ga_mem {o : List Nat} : ∀ {L A : List (List Nat)} {y : List Nat}, y ∈ tq_ga o A L → y ∈ A ∨ y ∈ L
  | [], A, y, h => Or.inl h
  | a :: L, A, y, h => by
    have h : y ∈ tq_ga o (if 12 < A.length ∨ a = o ∨ a ∈ A then A else A ++ [a]) L := h
    rcases tq_ga_mem h with h | h
    · split at h
      · exact Or.inl h
      · rcases List.mem_append.mp h with h | h
        · exact Or.inl h
        · rw [List.mem_singleton] at h
          exact Or.inr (by rw [h]; exact List.mem_cons_self)
    · exact Or.inr (List.mem_cons_of_mem _ h)
/-- the cause for which a step can't be taken (0: none), its row, what is left out of its premises' -/
abbrev tq_M : Type := Nat × (List Nat × (List Nat × (List Nat × List Nat)))
section TQM
variable (h : tx_H) (Θ : List tq_H) (D : List tq_R)
noncomputable def tq_mk (st : tp_P) : tq_M :=
  let r := st.1.1
  let a := tq_r D st.1.2.1
  let b := tq_r D st.1.2.2.1
  let c := tq_r D st.1.2.2.2
  let x := st.2.1.2
  let t := st.2.2.1
  let f := st.2.2.2
  let ar := arh h.1
  if r = 11 then (0, f, [], [], [])
  else if r = 10 then (0, (h.2.getD st.2.1.1 ([], [])).2, [], [], [])
  else if r = 12 then (0, (Θ.getD st.1.2.1 ([], 0, 0, 0)).1, [], [], [])
  else if r = 6 then (0, 6 :: (t ++ t), [], [], [])
  else if r = 13 then (0, 1 :: (a ++ b), [], [], [])
  else if r = 16 then (0, 2 :: (a ++ f), [], [], [])
  else if r = 17 then (0, 2 :: (f ++ a), [], [], [])
  else if r = 20 then (0, 3 :: (f ++ a), f, [], [])
  else if r = 14 then (if a.head? = some 1 then (0, tq_1 ar a, [], [], []) else (2, [], [], [], []))
  else if r = 15 then (if a.head? = some 1 then (0, tq_2 ar a, [], [], []) else (2, [], [], [], []))
  else if r = 18 then (if a.head? = some 2 ∧ b = c then (0, b, [], tq_1 ar a, tq_2 ar a) else (2, [], [], [], []))
  else if r = 19 then (if a.head? = some 3 ∧ tq_1 ar a = b then (0, tq_2 ar a, [], [], []) else (2, [], [], [], []))
  else if r = 21 then (if (tq_a D st.1.2.1).any (fun y => y.contains (60 + x)) = true then (3, [], [], [], []) else (0, tq_ge ar a x, [], [], []))
  else if r = 22 then (if a.head? = some 4 then (0, tq_in ar a t, [], [], []) else (2, [], [], [], []))
  else if r = 23 then (if f.head? = some 5 ∧ tq_in ar f t = a then (0, f, [], [], []) else (4, [], [], [], []))
  else if r = 24 then (if a.head? = some 5 then (if a.contains (60 + x) = true ∨ b.contains (60 + x) = true ∨ (tq_a D st.1.2.2.1).any (fun y => !decide (y = tq_in ar a [60 + x]) && y.contains (60 + x)) = true then (3, [], [], [], []) else (0, b, [], tq_in ar a [60 + x], [])) else (2, [], [], [], []))
  else if r = 25 then (if a.head? = some 6 then (@ite _ (tq_rp (tq_1 ar a) (tq_2 ar a) 40 b f) (Classical.propDecidable _) (0, f, [], [], []) (4, [], [], [], [])) else (2, [], [], [], []))
  else (if a.head? = some 0 then (0, f, if r = 27 then 3 :: (f ++ [0]) else [], [], []) else (2, [], [], [], []))
/-- the premises that it names are there -/
def tq_pr (st : tp_P) : Prop := if st.1.1 = 12 then st.1.2.1 < Θ.length else (1 ≤ tp_nn st.1.1 → st.1.2.1 < D.length) ∧ (2 ≤ tp_nn st.1.1 → st.1.2.2.1 < D.length) ∧ (3 ≤ tp_nn st.1.1 → st.1.2.2.2 < D.length)
/-- what it assumes -/
def tq_as (st : tp_P) (o : List Nat × (List Nat × List Nat)) : List (List Nat) :=
  if st.1.1 = 11 then [st.2.2.2] else
  let A1 := if 1 ≤ tq_np st.1.1 then tq_ga o.1 [] (tq_a D st.1.2.1) else []
  let A2 := if 2 ≤ tq_np st.1.1 then tq_ga o.2.1 A1 (tq_a D st.1.2.2.1) else A1
  if 3 ≤ tq_np st.1.1 then tq_ga o.2.2 A2 (tq_a D st.1.2.2.2) else A2
/-- bits: what it has itself, then what its premises have -/
def tq_or (f : tq_R → Int32) (z : Int32) (st : tp_P) : Int32 :=
  let z1 := if 1 ≤ tq_np st.1.1 then z ||| f (D.getD st.1.2.1 ([], [], 0, 0, 0)) else z
  let z2 := if 2 ≤ tq_np st.1.1 then z1 ||| f (D.getD st.1.2.2.1 ([], [], 0, 0, 0)) else z1
  if 3 ≤ tq_np st.1.1 then z2 ||| f (D.getD st.1.2.2.2 ([], [], 0, 0, 0)) else z2
def tq_oj (f : tq_R → Int64) (z : Int64) (st : tp_P) : Int64 :=
  let z1 := if 1 ≤ tq_np st.1.1 then z ||| f (D.getD st.1.2.1 ([], [], 0, 0, 0)) else z
  let z2 := if 2 ≤ tq_np st.1.1 then z1 ||| f (D.getD st.1.2.2.1 ([], [], 0, 0, 0)) else z1
  if 3 ≤ tq_np st.1.1 then z2 ||| f (D.getD st.1.2.2.2 ([], [], 0, 0, 0)) else z2
def tq_b (k : Nat) : Int32 := (1 : Int32) <<< (nI k &&& 31)
noncomputable def tq_res (st : tp_P) : tq_R := ((tq_mk h Θ D st).2.1, tq_as D st (tq_mk h Θ D st).2.2, tq_or D (fun q => q.2.2.1) (if st.1.1 = 10 then tq_b st.2.1.1 else 0) st, tq_or D (fun q => q.2.2.2.1) (if st.1.1 = 12 then tq_b st.1.2.1 else 0) st, tq_oj D (fun q => q.2.2.2.2) ((1 : Int64) <<< (Int32.toInt64 (nI D.length) &&& 63)) st)
def tq_fit (R : tq_R) : Prop := R.1.length ≤ 40 ∧ R.2.1.length ≤ 12 ∧ dp (arh h.1) R.1
/-- a step taken: its cause (0: none) -/
noncomputable def tq_cs (st : tp_P) : Nat := @ite _ (tq_pr Θ D st) (Classical.propDecidable _) (if (tq_mk h Θ D st).1 = 0 then @ite _ (tq_fit h (tq_res h Θ D st)) (Classical.propDecidable _) 0 5 else (tq_mk h Θ D st).1) 1
noncomputable def tq_run : List tp_P → List tq_R → List tq_R × Nat
  | [], D => (D, 0)
  | st :: l, D => if tq_cs h Θ D st = 0 then tq_run l (D ++ [tq_res h Θ D st]) else (D, tq_cs h Θ D st)
end TQM
section TQC
variable {h : tx_H} {Θ : List tq_H} {D : List tq_R} {st : tp_P}
theorem tq_cs_1 (hp : ¬ tq_pr Θ D st) : tq_cs h Θ D st = 1 := by
  unfold tq_cs
  rw [if_neg hp]
theorem tq_cs_m (hp : tq_pr Θ D st) (hm : (tq_mk h Θ D st).1 ≠ 0) : tq_cs h Θ D st = (tq_mk h Θ D st).1 := by
  unfold tq_cs
  rw [if_pos hp, if_neg hm]
theorem tq_cs_5 (hp : tq_pr Θ D st) (hm : (tq_mk h Θ D st).1 = 0) (hf : ¬ tq_fit h (tq_res h Θ D st)) : tq_cs h Θ D st = 5 := by
  unfold tq_cs
  rw [if_pos hp, if_pos hm, if_neg hf]
theorem tq_cs_0 (hp : tq_pr Θ D st) (hm : (tq_mk h Θ D st).1 = 0) (hf : tq_fit h (tq_res h Θ D st)) : tq_cs h Θ D st = 0 := by
  unfold tq_cs
  rw [if_pos hp, if_pos hm, if_pos hf]
theorem tq_run_0 {l : List tp_P} (hc : tq_cs h Θ D st = 0) : tq_run h Θ (st :: l) D = tq_run h Θ l (D ++ [tq_res h Θ D st]) := by
  show (if tq_cs h Θ D st = 0 then _ else _) = _
  rw [if_pos hc]
theorem tq_run_c {l : List tp_P} (hc : tq_cs h Θ D st ≠ 0) : tq_run h Θ (st :: l) D = (D, tq_cs h Θ D st) := by
  show (if tq_cs h Θ D st = 0 then _ else _) = _
  rw [if_neg hc]
end TQC
/-! what a result is: a formula, its premises' assumptions are steps' rows -/
def tq_G (g : tx_g) (R : tq_R) : Prop := (ws (sg g) R.1 [true] ∧ R.1.length ≤ 40 ∧ dp (arh g) R.1) ∧ R.2.1.length ≤ 12 ∧ ∀ y, y ∈ R.2.1 → y ≠ [] ∧ y.length ≤ 40
def tq_GD (g : tx_g) (D : List tq_R) : Prop := ∀ (k : Nat) (R : tq_R), D[k]? = some R → tq_G g R
/-- a step's own rows -/
def tp_G (g : tx_g) (nax : Nat) (st : tp_P) : Prop := tp_ok st.1.1 ∧ (tp_ht st.1.1 → ws (sg g) st.2.2.1 [false] ∧ st.2.2.1.length ≤ 40) ∧ (tp_hf st.1.1 → ws (sg g) st.2.2.2 [true] ∧ st.2.2.2.length ≤ 40) ∧ (tp_hx st.1.1 → st.2.1.2 < 12) ∧ (st.1.1 = 10 → st.2.1.1 < nax) ∧ st.1.2.1 < 10000 ∧ st.1.2.2.1 < 10000 ∧ st.1.2.2.2 < 10000
def tq_GT (g : tx_g) (Θ : List tq_H) : Prop := Θ.length ≤ 12 ∧ ∀ (k : Nat) (q : tq_H), Θ[k]? = some q → ws (sg g) q.1 [true] ∧ q.1.length ≤ 40
theorem tq_r_is {D : List tq_R} {k : Nat} {R : tq_R} (h : D[k]? = some R) : tq_r D k = R.1 ∧ tq_a D k = R.2.1 := by
  unfold tq_r tq_a
  rw [List.getD_eq_getElem?_getD, h]
  exact ⟨rfl, rfl⟩
theorem tq_at {D : List tq_R} {k : Nat} (h : k < D.length) : ∃ R, D[k]? = some R ∧ tq_r D k = R.1 ∧ tq_a D k = R.2.1 ∧ D.getD k ([], [], 0, 0, 0) = R := by
  refine ⟨D[k], List.getElem?_eq_getElem h, (tq_r_is (List.getElem?_eq_getElem h)).1, (tq_r_is (List.getElem?_eq_getElem h)).2, ?_⟩
  rw [List.getD_eq_getElem?_getD, List.getElem?_eq_getElem h]
  rfl
/-- the parts of a formula under one piece of two parts -/
theorem tq_half {g : tx_g} {l : List Nat} {c : Nat} {b0 : Bool} (hA : ArW (sg g) (arh g)) (hw : ws (sg g) l [true]) (hc : l.head? = some c) (hk : kS (sg g) true c = some [b0, b0]) : ws (sg g) (tq_1 (arh g) l) [b0] ∧ ws (sg g) (tq_2 (arh g) l) [b0] ∧ ws (sg g) (l.drop 1) [b0, b0] ∧ l = c :: (tq_1 (arh g) l ++ tq_2 (arh g) l) := by
  cases l with
  | nil => cases hc
  | cons d l =>
    cases hc
    obtain ⟨b, W', ks, e, hk2, h2⟩ := ws_cons.mp hw
    cases e
    rw [hk] at hk2
    cases hk2
    rw [List.append_nil] at h2
    obtain ⟨g1, g2⟩ := en_rest hA (k := 1) h2 (by simp)
    refine ⟨g2, g1, h2, ?_⟩
    unfold tq_1 tq_2
    rw [List.take_append_drop]
    rfl
theorem tq_pi_ws {σ : mSig} (hσ : σ.1.1 ≤ 6 ∧ σ.1.2 ≤ 4) {t : List Nat} (ht : ws σ t [false]) : ∀ {l : List Nat} {D : List (Nat × Nat)} {W : List Bool}, ws σ l W → D.length = l.length → ws σ (tq_pi t D l) W
  | [], [], _, h, _ => h
  | [], _ :: _, _, _, e => by cases e
  | _ :: _, [], _, _, e => by cases e
  | c :: l, d :: D, W, h, e => by
    obtain ⟨b, W', ks, rfl, hk, h2⟩ := ws_cons.mp h
    have ih := tq_pi_ws hσ ht h2 (D := D) (by rw [List.length_cons, List.length_cons] at e; omega)
    show ws σ ((if c + 1 = 40 + d.2 then t else [c]) ++ tq_pi t D l) (b :: W')
    split
    · next z =>
      rcases kS_cases hk with y | y | y | y | y | y | y
      · omega
      · omega
      · omega
      · omega
      · omega
      · omega
      · obtain ⟨rfl, -, -, rfl⟩ := y
        exact ws_app ht ih
    · exact ws_c hk ih
theorem tq_gi_ws {σ : mSig} (hσ : σ.1.1 ≤ 6 ∧ σ.1.2 ≤ 4) {x : Nat} : ∀ {l : List Nat} {D : List (Nat × Nat)} {W : List Bool}, ws σ l W → D.length = l.length → (∀ d, d ∈ D → d.2 < 32) → ws σ (tq_gi x D l) W
  | [], [], _, h, _, _ => h
  | [], _ :: _, _, _, e, _ => by cases e
  | _ :: _, [], _, _, e, _ => by cases e
  | c :: l, d :: D, W, h, e, hd => by
    obtain ⟨b, W', ks, rfl, hk, h2⟩ := ws_cons.mp h
    have ih := tq_gi_ws hσ (x := x) h2 (D := D) (by rw [List.length_cons, List.length_cons] at e; omega) (fun y hy => hd y (List.mem_cons_of_mem _ hy))
    have hd0 := hd d List.mem_cons_self
    show ws σ ((if c = 60 + x then 40 + d.2 else c) :: tq_gi x D l) (b :: W')
    split
    · next z =>
      rcases kS_cases hk with y | y | y | y | y | y | y
      · omega
      · omega
      · omega
      · omega
      · omega
      · omega
      · obtain ⟨rfl, -, -, rfl⟩ := y
        exact ws_c (kS_tx hσ.2 (by omega) (by omega)) ih
    · exact ws_c hk ih
theorem dp_lt {ar : Nat → Nat} {l : List Nat} (h : dp ar l) (hl : (ly ar [(0, 0)] l).length = l.length) : ∀ d, d ∈ ly ar [(0, 0)] l → d.2 < 32 := fun d hd => by
  obtain ⟨i, hi⟩ := List.mem_iff_getElem?.mp hd
  have hil := (List.getElem?_eq_some_iff.mp hi).1
  have := (h i d _ hi (List.getElem?_eq_getElem (by omega))).2
  omega
section TQE
variable {h : tx_H} {Θ : List tq_H} {D : List tq_R} {n1 n2 n3 ax x : Nat} {t f : List Nat}
theorem tq_mk_6 : tq_mk h Θ D ((6, n1, n2, n3), (ax, x), t, f) = (0, 6 :: (t ++ t), [], [], []) := rfl
theorem tq_mk_10 : tq_mk h Θ D ((10, n1, n2, n3), (ax, x), t, f) = (0, (h.2.getD ax ([], [])).2, [], [], []) := rfl
theorem tq_mk_11 : tq_mk h Θ D ((11, n1, n2, n3), (ax, x), t, f) = (0, f, [], [], []) := rfl
theorem tq_mk_12 : tq_mk h Θ D ((12, n1, n2, n3), (ax, x), t, f) = (0, (Θ.getD n1 ([], 0, 0, 0)).1, [], [], []) := rfl
theorem tq_mk_13 : tq_mk h Θ D ((13, n1, n2, n3), (ax, x), t, f) = (0, 1 :: (tq_r D n1 ++ tq_r D n2), [], [], []) := rfl
theorem tq_mk_14 : tq_mk h Θ D ((14, n1, n2, n3), (ax, x), t, f) = (if (tq_r D n1).head? = some 1 then (0, tq_1 (arh h.1) (tq_r D n1), [], [], []) else (2, [], [], [], [])) := rfl
theorem tq_mk_15 : tq_mk h Θ D ((15, n1, n2, n3), (ax, x), t, f) = (if (tq_r D n1).head? = some 1 then (0, tq_2 (arh h.1) (tq_r D n1), [], [], []) else (2, [], [], [], [])) := rfl
theorem tq_mk_16 : tq_mk h Θ D ((16, n1, n2, n3), (ax, x), t, f) = (0, 2 :: (tq_r D n1 ++ f), [], [], []) := rfl
theorem tq_mk_17 : tq_mk h Θ D ((17, n1, n2, n3), (ax, x), t, f) = (0, 2 :: (f ++ tq_r D n1), [], [], []) := rfl
theorem tq_mk_18 : tq_mk h Θ D ((18, n1, n2, n3), (ax, x), t, f) = (if (tq_r D n1).head? = some 2 ∧ tq_r D n2 = tq_r D n3 then (0, tq_r D n2, [], tq_1 (arh h.1) (tq_r D n1), tq_2 (arh h.1) (tq_r D n1)) else (2, [], [], [], [])) := rfl
theorem tq_mk_19 : tq_mk h Θ D ((19, n1, n2, n3), (ax, x), t, f) = (if (tq_r D n1).head? = some 3 ∧ tq_1 (arh h.1) (tq_r D n1) = tq_r D n2 then (0, tq_2 (arh h.1) (tq_r D n1), [], [], []) else (2, [], [], [], [])) := rfl
theorem tq_mk_20 : tq_mk h Θ D ((20, n1, n2, n3), (ax, x), t, f) = (0, 3 :: (f ++ tq_r D n1), f, [], []) := rfl
theorem tq_mk_21 : tq_mk h Θ D ((21, n1, n2, n3), (ax, x), t, f) = (if (tq_a D n1).any (fun y => y.contains (60 + x)) = true then (3, [], [], [], []) else (0, tq_ge (arh h.1) (tq_r D n1) x, [], [], [])) := rfl
theorem tq_mk_22 : tq_mk h Θ D ((22, n1, n2, n3), (ax, x), t, f) = (if (tq_r D n1).head? = some 4 then (0, tq_in (arh h.1) (tq_r D n1) t, [], [], []) else (2, [], [], [], [])) := rfl
theorem tq_mk_23 : tq_mk h Θ D ((23, n1, n2, n3), (ax, x), t, f) = (if f.head? = some 5 ∧ tq_in (arh h.1) f t = tq_r D n1 then (0, f, [], [], []) else (4, [], [], [], [])) := rfl
theorem tq_mk_24 : tq_mk h Θ D ((24, n1, n2, n3), (ax, x), t, f) = (if (tq_r D n1).head? = some 5 then (if (tq_r D n1).contains (60 + x) = true ∨ (tq_r D n2).contains (60 + x) = true ∨ (tq_a D n2).any (fun y => !decide (y = tq_in (arh h.1) (tq_r D n1) [60 + x]) && y.contains (60 + x)) = true then (3, [], [], [], []) else (0, tq_r D n2, [], tq_in (arh h.1) (tq_r D n1) [60 + x], [])) else (2, [], [], [], [])) := rfl
theorem tq_mk_25 : tq_mk h Θ D ((25, n1, n2, n3), (ax, x), t, f) = (if (tq_r D n1).head? = some 6 then (@ite _ (tq_rp (tq_1 (arh h.1) (tq_r D n1)) (tq_2 (arh h.1) (tq_r D n1)) 40 (tq_r D n2) f) (Classical.propDecidable _) (0, f, [], [], []) (4, [], [], [], [])) else (2, [], [], [], [])) := rfl
theorem tq_mk_26 : tq_mk h Θ D ((26, n1, n2, n3), (ax, x), t, f) = (if (tq_r D n1).head? = some 0 then (0, f, [], [], []) else (2, [], [], [], [])) := rfl
theorem tq_mk_27 : tq_mk h Θ D ((27, n1, n2, n3), (ax, x), t, f) = (if (tq_r D n1).head? = some 0 then (0, f, 3 :: (f ++ [0]), [], []) else (2, [], [], [], [])) := rfl
end TQE
theorem tp_ok_c {r : Nat} (h : tp_ok r) : r = 6 ∨ r = 10 ∨ r = 11 ∨ r = 12 ∨ r = 13 ∨ r = 14 ∨ r = 15 ∨ r = 16 ∨ r = 17 ∨ r = 18 ∨ r = 19 ∨ r = 20 ∨ r = 21 ∨ r = 22 ∨ r = 23 ∨ r = 24 ∨ r = 25 ∨ r = 26 ∨ r = 27 := by
  unfold tp_ok at h
  omega
theorem tq_in_ws {g : tx_g} (hσ : (sg g).1.1 ≤ 6 ∧ (sg g).1.2 ≤ 4) (hA : ArW (sg g) (arh g)) {l t : List Nat} (hw : ws (sg g) l [true]) (hc : l.head? = some 4 ∨ l.head? = some 5) (ht : ws (sg g) t [false]) : ws (sg g) (tq_in (arh g) l t) [true] := by
  have hlen := ly_len hA hw (S := [(0, 0)]) rfl
  cases l with
  | nil => rcases hc with hc | hc <;> cases hc
  | cons c l =>
    have hc : c = 4 ∨ c = 5 := by
      rcases hc with hc | hc
      · exact Or.inl (Option.some.inj hc)
      · exact Or.inr (Option.some.inj hc)
    obtain ⟨b, W', ks, e, hk, h2⟩ := ws_cons.mp hw
    cases e
    rw [kS_f1 hc] at hk
    cases hk
    unfold tq_in
    exact tq_pi_ws hσ ht h2 (by rw [List.length_drop, hlen]; show l.length + 1 - 1 = l.length; omega)
theorem kS_2 {σ : mSig} {c : Nat} (h : 1 ≤ c) (h' : c ≤ 3) : kS σ true c = some [true, true] := kS_f2 h h'
/-- a row that is made is a formula -/
theorem tq_mk_ws {h : tx_H} {Θ : List tq_H} {D : List tq_R} {st : tp_P} (hw : WFt h) (hG : tp_G h.1 h.2.length st) (hp : tq_pr Θ D st) (hD : tq_GD h.1 D) (hT : tq_GT h.1 Θ) (hm : (tq_mk h Θ D st).1 = 0) : ws (sg h.1) (tq_mk h Θ D st).2.1 [true] := by
  obtain ⟨⟨r, n1, n2, n3⟩, ⟨ax, x⟩, t, f⟩ := st
  obtain ⟨g0, g1, g2, g3, g4, -⟩ := hG
  have hA := arh_k (g := h.1) hw.1 hw.2.1
  have hσ := sg_b hw
  have P : ∀ {k : Nat}, k < D.length → ws (sg h.1) (tq_r D k) [true] ∧ (tq_r D k).length ≤ 40 ∧ dp (arh h.1) (tq_r D k) := fun {k} hk => by
    obtain ⟨R, e1, e2, -, -⟩ := tq_at hk
    rw [e2]
    exact (hD k R e1).1
  have L : ∀ {l : List Nat}, ws (sg h.1) l [true] → (ly (arh h.1) [(0, 0)] l).length = l.length := fun hl => ly_len hA hl rfl
  rcases tp_ok_c g0 with rfl | rfl | rfl | rfl | rfl | rfl | rfl | rfl | rfl | rfl | rfl | rfl | rfl | rfl | rfl | rfl | rfl | rfl | rfl
  · obtain ⟨w, -⟩ := g1 (Or.inl rfl)
    exact ws_c kS_f6 (ws_app (W1 := [false]) w w)
  · rw [tq_mk_10]
    have hax := g4 rfl
    obtain ⟨⟨w, l⟩, hk⟩ : ∃ q, h.2[ax]? = some q := ⟨_, List.getElem?_eq_getElem hax⟩
    show ws _ (h.2.getD ax ([], [])).2 _
    rw [List.getD_eq_getElem?_getD, hk]
    exact wf_ws (hw.2.2 ax w l hk).1
  · exact (g2 (Or.inl rfl)).1
  · have hn : n1 < Θ.length := hp
    obtain ⟨q, hk⟩ : ∃ q, Θ[n1]? = some q := ⟨_, List.getElem?_eq_getElem hn⟩
    show ws _ (Θ.getD n1 ([], 0, 0, 0)).1 _
    rw [List.getD_eq_getElem?_getD, hk]
    exact (hT.2 n1 q hk).1
  · have p1 := P (hp.1 (of_decide_eq_true rfl))
    have p2 := P (hp.2.1 (of_decide_eq_true rfl))
    exact ws_c (kS_2 (by decide) (by decide)) (ws_app (W1 := [true]) p1.1 p2.1)
  · have p1 := P (hp.1 (of_decide_eq_true rfl))
    rw [tq_mk_14] at hm ⊢
    split at hm
    · next z =>
      rw [if_pos z]
      exact (tq_half hA p1.1 z (kS_2 (by decide) (by decide))).1
    · cases hm
  · have p1 := P (hp.1 (of_decide_eq_true rfl))
    rw [tq_mk_15] at hm ⊢
    split at hm
    · next z =>
      rw [if_pos z]
      exact (tq_half hA p1.1 z (kS_2 (by decide) (by decide))).2.1
    · cases hm
  · have p1 := P (hp.1 (of_decide_eq_true rfl))
    exact ws_c (kS_2 (by decide) (by decide)) (ws_app (W1 := [true]) p1.1 (g2 (of_decide_eq_true rfl)).1)
  · have p1 := P (hp.1 (of_decide_eq_true rfl))
    exact ws_c (kS_2 (by decide) (by decide)) (ws_app (W1 := [true]) (g2 (of_decide_eq_true rfl)).1 p1.1)
  · have p2 := P (hp.2.1 (of_decide_eq_true rfl))
    rw [tq_mk_18] at hm ⊢
    split at hm
    · next z =>
      rw [if_pos z]
      exact p2.1
    · cases hm
  · have p1 := P (hp.1 (of_decide_eq_true rfl))
    rw [tq_mk_19] at hm ⊢
    split at hm
    · next z =>
      rw [if_pos z]
      exact (tq_half hA p1.1 z.1 (kS_2 (by decide) (by decide))).2.1
    · cases hm
  · have p1 := P (hp.1 (of_decide_eq_true rfl))
    exact ws_c (kS_2 (by decide) (by decide)) (ws_app (W1 := [true]) (g2 (of_decide_eq_true rfl)).1 p1.1)
  · have p1 := P (hp.1 (of_decide_eq_true rfl))
    rw [tq_mk_21] at hm ⊢
    split at hm
    · cases hm
    · next z =>
      rw [if_neg z]
      exact ws_c (kS_f1 (Or.inl rfl)) (tq_gi_ws hσ p1.1 (L p1.1) (dp_lt p1.2.2 (L p1.1)))
  · have p1 := P (hp.1 (of_decide_eq_true rfl))
    rw [tq_mk_22] at hm ⊢
    split at hm
    · next z =>
      rw [if_pos z]
      exact tq_in_ws hσ hA p1.1 (Or.inl z) (g1 (of_decide_eq_true rfl)).1
    · cases hm
  · rw [tq_mk_23] at hm ⊢
    split at hm
    · next z =>
      rw [if_pos z]
      exact (g2 (of_decide_eq_true rfl)).1
    · cases hm
  · have p2 := P (hp.2.1 (of_decide_eq_true rfl))
    rw [tq_mk_24] at hm ⊢
    split at hm
    · next z =>
      rw [if_pos z]
      split at hm
      · cases hm
      · next z2 =>
        rw [if_neg z2]
        exact p2.1
    · cases hm
  · rw [tq_mk_25] at hm ⊢
    split at hm
    · next z =>
      rw [if_pos z]
      split at hm
      · next z2 =>
        rw [if_pos z2]
        exact (g2 (of_decide_eq_true rfl)).1
      · cases hm
    · cases hm
  · rw [tq_mk_26] at hm ⊢
    split at hm
    · next z =>
      rw [if_pos z]
      exact (g2 (of_decide_eq_true rfl)).1
    · cases hm
  · rw [tq_mk_27] at hm ⊢
    split at hm
    · next z =>
      rw [if_pos z]
      exact (g2 (of_decide_eq_true rfl)).1
    · cases hm
