/-! THE READER of formulas and terms, as a machine of frames: a frame is what it still wants (how many, formulas?), whether it is a not's, the name that it binds -/
/-- names with what they take: relations, functions; whether no name may be free -/
abbrev tx_E : Type := (List (List Nat × Nat) × List (List Nat × Nat)) × Bool
def tx_R (E : tx_E) : List (List Nat) := E.1.1.map Prod.fst
def tx_G (E : tx_E) : List (List Nat) := E.1.2.map Prod.fst
abbrev tx_F : Type := Nat × Bool × Bool × Option (List Nat)
/-- phase (0 a term begins, 1 a formula begins, 2 what is ended ends, 3 done, 4 a fault), frames, place, row, free names, the fault's kind -/
abbrev tx_C : Type := Nat × List tx_F × Nat × List Nat × List (List Nat) × Nat
def tx_bs : List tx_F → List (List Nat)
  | [] => []
  | (_, _, _, none) :: S => tx_bs S
  | (_, _, _, some w) :: S => w :: tx_bs S
def tx_due : List tx_F → Nat
  | [] => 0
  | (_, _, nt, _) :: S => (if nt then 1 else 0) + tx_due S
def tx_bk (tk : tx_K) : Nat := if tk.1 = 1 then 1 else 2
def tx_isX (E : tx_E) (tk : tx_K) : Prop := tk.1 = 2 ∧ tx_at (tx_R E) tk.2.2.2.1 = none ∧ tx_at (tx_G E) tk.2.2.2.1 = none
/-- the piece that a formula begins with here, but for a not -/
def tx_pc (E : tx_E) (tk : tx_K) : Option Nat :=
  if tk.1 = 3 then (if tk.2.2.2.2 ≤ 6 then some tk.2.2.2.2 else none)
  else if tk.1 = 2 then (match tx_at (tx_R E) tk.2.2.2.1 with
    | some r => some (10 + r)
    | none => none)
  else none
def tx_ra (E : tx_E) (r : Nat) : Nat := (E.1.1.getD r ([], 0)).2
def tx_fa (E : tx_E) (f : Nat) : Nat := (E.1.2.getD f ([], 0)).2
/-- how many parts stand behind a formula's piece -/
def tx_ar (E : tx_E) (c : Nat) : Nat := if c = 0 then 0 else if c < 4 then 2 else if c < 6 then 1 else if c = 6 then 2 else tx_ra E (c - 10)
def tx_room (S : List tx_F) (l : List Nat) (d k : Nat) : Prop := S.length + d ≤ 12 ∧ l.length + tx_due S + k ≤ 40
/-- the piece of a name: bound ones (the nearest is 40), then free ones; none: it may not be free, or is one too many -/
def tx_nm (E : tx_E) (S : List tx_F) (fr : List (List Nat)) (w : List Nat) : Option (Nat × List (List Nat)) := match tx_at (tx_bs S) w with
  | some i => some (40 + i, fr)
  | none => if E.2 = true then none else match tx_at fr w with
    | some i => some (60 + i, fr)
    | none => if fr.length < 12 then some (60 + fr.length, fr ++ [w]) else none
section TXM
variable (T : Nat → Nat) (n : Nat) (E : tx_E)
def tx_bf (S : List tx_F) (p : Nat) (l : List Nat) (fr : List (List Nat)) : tx_C :=
  let tk := tx_tok T n p
  if tk.1 = 3 ∧ tk.2.2.2.2 = 7 then
    if S.length + 1 ≤ 12 ∧ l.length + tx_due S + 2 ≤ 40 then (2, (1, true, true, none) :: S, tk.2.2.1, l ++ [3], fr, 0) else (4, S, tk.2.1, l, fr, tx_bk tk)
  else match tx_pc E tk with
    | none => (4, S, tk.2.1, l, fr, tx_bk tk)
    | some c =>
      if S.length ≤ 12 ∧ l.length + tx_due S + 1 ≤ 40 ∧ ((c = 4 ∨ c = 5) → (tx_bs S).length ≤ 4) then
        if c = 4 ∨ c = 5 then
          if (tx_tok T n tk.2.2.1).1 = 2 ∧ tx_at (tx_R E) (tx_tok T n tk.2.2.1).2.2.2.1 = none ∧ tx_at (tx_G E) (tx_tok T n tk.2.2.1).2.2.2.1 = none then
            (2, (1, true, false, some (tx_tok T n tk.2.2.1).2.2.2.1) :: S, (tx_tok T n tk.2.2.1).2.2.1, l ++ [c], fr, 0)
          else (4, S, (tx_tok T n tk.2.2.1).2.1, l ++ [c], fr, tx_bk (tx_tok T n tk.2.2.1))
        else (2, (tx_ar E c, decide (c < 6), false, none) :: S, tk.2.2.1, l ++ [c], fr, 0)
      else (4, S, tk.2.1, l, fr, tx_bk tk)
def tx_bt (S : List tx_F) (p : Nat) (l : List Nat) (fr : List (List Nat)) : tx_C :=
  let tk := tx_tok T n p
  if tk.1 = 2 ∧ tx_at (tx_R E) tk.2.2.2.1 = none ∧ S.length ≤ 12 ∧ l.length + tx_due S + 1 ≤ 40 then
    match tx_at (tx_G E) tk.2.2.2.1 with
    | some g => (2, (tx_fa E g, false, false, none) :: S, tk.2.2.1, l ++ [20 + g], fr, 0)
    | none => match tx_nm E S fr tk.2.2.2.1 with
      | some (c, fr2) => (2, (0, false, false, none) :: S, tk.2.2.1, l ++ [c], fr2, 0)
      | none => (4, S, tk.2.1, l, fr, if E.2 = true then 5 else 2)
  else (4, S, tk.2.1, l, fr, tx_bk tk)
def tx_st : tx_C → tx_C
  | (0, S, p, l, fr, _) => tx_bt T n E S p l fr
  | (1, S, p, l, fr, _) => tx_bf T n E S p l fr
  | (2, [], p, l, fr, _) => (3, [], p, l, fr, 0)
  | (2, (0, _, nt, _) :: S, p, l, fr, _) => (2, S, p, if nt then l ++ [0] else l, fr, 0)
  | (2, (k + 1, b, nt, w) :: S, p, l, fr, _) => (if b then 1 else 0, (k, b, nt, w) :: S, p, l, fr, 0)
  | c => c
end TXM
/-! runs of steps -/
def gt_it {α : Type} (f : α → α) : Nat → α → α
  | 0, c => c
  | m + 1, c => gt_it f m (f c)
def gt_go {α : Type} (f : α → α) (c c' : α) : Prop := ∃ m, gt_it f m c = c'
theorem gt_refl {α : Type} {f : α → α} {c : α} : gt_go f c c := ⟨0, rfl⟩
theorem gt_step {α : Type} {f : α → α} {c c1 c' : α} (h : f c = c1) (g : gt_go f c1 c') : gt_go f c c' := by
  obtain ⟨m, hm⟩ := g
  exact ⟨m + 1, by show gt_it f m (f c) = c'; rw [h]; exact hm⟩
theorem gt_one {α : Type} {f : α → α} {c c1 : α} (h : f c = c1) : gt_go f c c1 := gt_step h gt_refl
theorem gt_it_add {α : Type} {f : α → α} : ∀ {a b : Nat} {c : α}, gt_it f (a + b) c = gt_it f b (gt_it f a c)
  | 0, b, c => by rw [Nat.zero_add]; rfl
  | a + 1, b, c => by
    rw [show a + 1 + b = (a + b) + 1 from by omega]
    show gt_it f (a + b) (f c) = gt_it f b (gt_it f a (f c))
    exact gt_it_add
theorem gt_trans {α : Type} {f : α → α} {c c1 c2 : α} (h : gt_go f c c1) (g : gt_go f c1 c2) : gt_go f c c2 := by
  obtain ⟨a, ha⟩ := h
  obtain ⟨b, hb⟩ := g
  exact ⟨a + b, by rw [gt_it_add, ha, hb]⟩
theorem gt_fix {α : Type} {f : α → α} {c : α} (h : f c = c) : ∀ {m : Nat}, gt_it f m c = c
  | 0 => rfl
  | m + 1 => by
    show gt_it f m (f c) = c
    rw [h]
    exact gt_fix h
/-- ends are the same -/
theorem gt_det {α : Type} {f : α → α} {c a b : α} (ha : gt_go f c a) (hb : gt_go f c b) (fa : f a = a) (fb : f b = b) : a = b := by
  obtain ⟨k, rfl⟩ := ha
  obtain ⟨j, rfl⟩ := hb
  rcases Nat.le_total k j with h | h
  · obtain ⟨q, rfl⟩ : ∃ q, j = k + q := ⟨j - k, by omega⟩
    rw [gt_it_add, gt_fix fa]
  · obtain ⟨q, rfl⟩ : ∃ q, k = j + q := ⟨k - j, by omega⟩
    rw [gt_it_add, gt_fix fb]
/-- the end that a run comes to, if there is one -/
noncomputable def gt_end {α : Type} (f : α → α) (c : α) : α := @Classical.epsilon α ⟨c⟩ (fun e => gt_go f c e ∧ f e = e)
theorem gt_end_is {α : Type} {f : α → α} {c a : α} (ha : gt_go f c a) (fa : f a = a) : gt_end f c = a := by
  have h : gt_go f c (gt_end f c) ∧ f (gt_end f c) = gt_end f c := @Classical.epsilon_spec α (fun e => gt_go f c e ∧ f e = e) ⟨a, ha, fa⟩
  exact gt_det h.1 ha h.2 fa
/-! A THEORY: relations, functions with what they take, axioms with their rows -/
abbrev tx_H : Type := (List (List Nat × Nat) × List (List Nat × Nat)) × List (List Nat × List Nat)
/-- phase (0 a line begins, 3 done, 4 a fault), the theory so far, the place, the fault's kind -/
abbrev tx_D4 : Type := Nat × tx_H × Nat × Nat
def tx_A (h : tx_H) : List (List Nat) := h.2.map Prod.fst
section TXT
variable (T : Nat → Nat) (n : Nat)
def tx_semi (h : tx_H) (p : Nat) : tx_D4 := if (tx_tok T n p).1 = 5 then (0, h, (tx_tok T n p).2.2.1, 0) else (4, h, (tx_tok T n p).2.1, tx_bk (tx_tok T n p))
/-- a relation or a function told: its name stands at p -/
def tx_sym (rel : Bool) (h : tx_H) (p : Nat) : tx_D4 :=
  let tk := tx_tok T n p
  if tk.1 = 2 then
    if tx_at (h.1.1.map Prod.fst) tk.2.2.2.1 = none ∧ tx_at (h.1.2.map Prod.fst) tk.2.2.2.1 = none then
      if (tx_tok T n tk.2.2.1).1 = 4 then
        if (tx_tok T n tk.2.2.1).2.2.2.2 ≤ 2 then
          tx_semi T n (if rel then ((h.1.1 ++ [(tk.2.2.2.1, (tx_tok T n tk.2.2.1).2.2.2.2)], h.1.2), h.2) else ((h.1.1, h.1.2 ++ [(tk.2.2.2.1, (tx_tok T n tk.2.2.1).2.2.2.2)]), h.2)) (tx_tok T n tk.2.2.1).2.2.1
        else (4, h, (tx_tok T n tk.2.2.1).2.1, 4)
      else (4, h, (tx_tok T n tk.2.2.1).2.1, tx_bk (tx_tok T n tk.2.2.1))
    else (4, h, tk.2.1, 3)
  else (4, h, tk.2.1, tx_bk tk)
noncomputable def tx_axm (h : tx_H) (p : Nat) : tx_D4 :=
  let tk := tx_tok T n p
  if tk.1 = 2 then
    if tx_at (tx_A h) tk.2.2.2.1 = none then
      match gt_end (tx_st T n (h.1, true)) (1, [], tk.2.2.1, [], [], 0) with
      | (4, _, q, _, _, k) => (4, h, q, k)
      | (_, _, q, l, _, _) => tx_semi T n (h.1, h.2 ++ [(tk.2.2.2.1, l)]) q
    else (4, h, tk.2.1, 3)
  else (4, h, tk.2.1, tx_bk tk)
noncomputable def tx_lb (h : tx_H) (p : Nat) : tx_D4 :=
  if (tx_tok T n p).1 = 0 then (3, h, p, 0)
  else if (tx_tok T n p).1 = 3 ∧ (tx_tok T n p).2.2.2.2 = 8 ∧ h.1.1.length < 6 then tx_sym T n true h (tx_tok T n p).2.2.1
  else if (tx_tok T n p).1 = 3 ∧ (tx_tok T n p).2.2.2.2 = 9 ∧ h.1.2.length < 4 then tx_sym T n false h (tx_tok T n p).2.2.1
  else if (tx_tok T n p).1 = 3 ∧ (tx_tok T n p).2.2.2.2 = 10 ∧ h.2.length < 8 then tx_axm T n h (tx_tok T n p).2.2.1
  else (4, h, (tx_tok T n p).2.1, tx_bk (tx_tok T n p))
noncomputable def tx_ln : tx_D4 → tx_D4
  | (0, h, p, _) => tx_lb T n h p
  | c => c
end TXT
