/-! the steps of the machine, case by case -/
section TXS
variable {T : Nat → Nat} {n : Nat} {E : tx_E} {S : List tx_F} {p : Nat} {l : List Nat} {fr : List (List Nat)} {tk : tx_K}
theorem tx_s_not (e : tx_tok T n p = tk) (h : tk.1 = 3 ∧ tk.2.2.2.2 = 7) (h1 : S.length + 1 ≤ 12) (h2 : l.length + tx_due S + 2 ≤ 40) : tx_st T n E (1, S, p, l, fr, 0) = (2, (1, true, true, none) :: S, tk.2.2.1, l ++ [3], fr, 0) := by
  subst e
  show tx_bf T n E S p l fr = _
  unfold tx_bf
  dsimp only
  rw [if_pos h, if_pos ⟨h1, h2⟩]
theorem tx_s_notb (e : tx_tok T n p = tk) (h : tk.1 = 3 ∧ tk.2.2.2.2 = 7) (h1 : ¬ (S.length + 1 ≤ 12 ∧ l.length + tx_due S + 2 ≤ 40)) : tx_st T n E (1, S, p, l, fr, 0) = (4, S, tk.2.1, l, fr, tx_bk tk) := by
  subst e
  show tx_bf T n E S p l fr = _
  unfold tx_bf
  dsimp only
  rw [if_pos h, if_neg h1]
theorem tx_s_none (e : tx_tok T n p = tk) (h : ¬ (tk.1 = 3 ∧ tk.2.2.2.2 = 7)) (hc : tx_pc E tk = none) : tx_st T n E (1, S, p, l, fr, 0) = (4, S, tk.2.1, l, fr, tx_bk tk) := by
  subst e
  show tx_bf T n E S p l fr = _
  unfold tx_bf
  dsimp only
  rw [if_neg h, hc]
theorem tx_s_full {c : Nat} (e : tx_tok T n p = tk) (h : ¬ (tk.1 = 3 ∧ tk.2.2.2.2 = 7)) (hc : tx_pc E tk = some c) (h1 : ¬ (S.length ≤ 12 ∧ l.length + tx_due S + 1 ≤ 40 ∧ ((c = 4 ∨ c = 5) → (tx_bs S).length ≤ 4))) : tx_st T n E (1, S, p, l, fr, 0) = (4, S, tk.2.1, l, fr, tx_bk tk) := by
  subst e
  show tx_bf T n E S p l fr = _
  unfold tx_bf
  dsimp only
  rw [if_neg h, hc]
  dsimp only
  rw [if_neg h1]
theorem tx_s_piece {c : Nat} (e : tx_tok T n p = tk) (h : ¬ (tk.1 = 3 ∧ tk.2.2.2.2 = 7)) (hc : tx_pc E tk = some c) (h1 : S.length ≤ 12) (h2 : l.length + tx_due S + 1 ≤ 40) (h3 : ¬ (c = 4 ∨ c = 5)) : tx_st T n E (1, S, p, l, fr, 0) = (2, (tx_ar E c, decide (c < 6), false, none) :: S, tk.2.2.1, l ++ [c], fr, 0) := by
  subst e
  show tx_bf T n E S p l fr = _
  unfold tx_bf
  dsimp only
  rw [if_neg h, hc]
  dsimp only
  rw [if_pos ⟨h1, h2, fun z => (h3 z).elim⟩, if_neg h3]
theorem tx_s_q {c : Nat} {t2 : tx_K} (e : tx_tok T n p = tk) (h : ¬ (tk.1 = 3 ∧ tk.2.2.2.2 = 7)) (hc : tx_pc E tk = some c) (h1 : S.length ≤ 12) (h2 : l.length + tx_due S + 1 ≤ 40) (h3 : c = 4 ∨ c = 5) (h4 : (tx_bs S).length ≤ 4) (e2 : tx_tok T n tk.2.2.1 = t2) (hx : tx_isX E t2) : tx_st T n E (1, S, p, l, fr, 0) = (2, (1, true, false, some t2.2.2.2.1) :: S, t2.2.2.1, l ++ [c], fr, 0) := by
  subst e
  subst e2
  unfold tx_isX at hx
  show tx_bf T n E S p l fr = _
  unfold tx_bf
  dsimp only
  rw [if_neg h, hc]
  dsimp only
  rw [if_pos ⟨h1, h2, fun _ => h4⟩, if_pos h3, if_pos hx]
theorem tx_s_qb {c : Nat} {t2 : tx_K} (e : tx_tok T n p = tk) (h : ¬ (tk.1 = 3 ∧ tk.2.2.2.2 = 7)) (hc : tx_pc E tk = some c) (h1 : S.length ≤ 12) (h2 : l.length + tx_due S + 1 ≤ 40) (h3 : c = 4 ∨ c = 5) (h4 : (tx_bs S).length ≤ 4) (e2 : tx_tok T n tk.2.2.1 = t2) (hx : ¬ tx_isX E t2) : tx_st T n E (1, S, p, l, fr, 0) = (4, S, t2.2.1, l ++ [c], fr, tx_bk t2) := by
  subst e
  subst e2
  unfold tx_isX at hx
  show tx_bf T n E S p l fr = _
  unfold tx_bf
  dsimp only
  rw [if_neg h, hc]
  dsimp only
  rw [if_pos ⟨h1, h2, fun _ => h4⟩, if_pos h3, if_neg hx]
theorem tx_s_tb (e : tx_tok T n p = tk) (h : ¬ (tk.1 = 2 ∧ tx_at (tx_R E) tk.2.2.2.1 = none ∧ S.length ≤ 12 ∧ l.length + tx_due S + 1 ≤ 40)) : tx_st T n E (0, S, p, l, fr, 0) = (4, S, tk.2.1, l, fr, tx_bk tk) := by
  subst e
  show tx_bt T n E S p l fr = _
  unfold tx_bt
  dsimp only
  rw [if_neg h]
theorem tx_s_fun {g : Nat} (e : tx_tok T n p = tk) (h : tk.1 = 2 ∧ tx_at (tx_R E) tk.2.2.2.1 = none ∧ S.length ≤ 12 ∧ l.length + tx_due S + 1 ≤ 40) (hg : tx_at (tx_G E) tk.2.2.2.1 = some g) : tx_st T n E (0, S, p, l, fr, 0) = (2, (tx_fa E g, false, false, none) :: S, tk.2.2.1, l ++ [20 + g], fr, 0) := by
  subst e
  show tx_bt T n E S p l fr = _
  unfold tx_bt
  dsimp only
  rw [if_pos h, hg]
theorem tx_s_name {c : Nat} {fr2 : List (List Nat)} (e : tx_tok T n p = tk) (h : tk.1 = 2 ∧ tx_at (tx_R E) tk.2.2.2.1 = none ∧ S.length ≤ 12 ∧ l.length + tx_due S + 1 ≤ 40) (hg : tx_at (tx_G E) tk.2.2.2.1 = none) (hm : tx_nm E S fr tk.2.2.2.1 = some (c, fr2)) : tx_st T n E (0, S, p, l, fr, 0) = (2, (0, false, false, none) :: S, tk.2.2.1, l ++ [c], fr2, 0) := by
  subst e
  show tx_bt T n E S p l fr = _
  unfold tx_bt
  dsimp only
  rw [if_pos h, hg]
  dsimp only
  rw [hm]
theorem tx_s_nameb (e : tx_tok T n p = tk) (h : tk.1 = 2 ∧ tx_at (tx_R E) tk.2.2.2.1 = none ∧ S.length ≤ 12 ∧ l.length + tx_due S + 1 ≤ 40) (hg : tx_at (tx_G E) tk.2.2.2.1 = none) (hm : tx_nm E S fr tk.2.2.2.1 = none) : tx_st T n E (0, S, p, l, fr, 0) = (4, S, tk.2.1, l, fr, if E.2 = true then 5 else 2) := by
  subst e
  show tx_bt T n E S p l fr = _
  unfold tx_bt
  dsimp only
  rw [if_pos h, hg]
  dsimp only
  rw [hm]
theorem tx_s_0 {b nt : Bool} {w : Option (List Nat)} : tx_st T n E (2, (0, b, nt, w) :: S, p, l, fr, 0) = (2, S, p, if nt then l ++ [0] else l, fr, 0) := rfl
theorem tx_s_k {k : Nat} {b nt : Bool} {w : Option (List Nat)} : tx_st T n E (2, (k + 1, b, nt, w) :: S, p, l, fr, 0) = (if b then 1 else 0, (k, b, nt, w) :: S, p, l, fr, 0) := rfl
theorem tx_due_le : ∀ {S : List tx_F}, tx_due S ≤ S.length
  | [] => Nat.le_refl _
  | (_, _, nt, _) :: S => by
    have := tx_due_le (S := S)
    show (if nt then 1 else 0) + tx_due S ≤ S.length + 1
    cases nt
    · show 0 + tx_due S ≤ _; omega
    · show 1 + tx_due S ≤ _; omega
end TXS
/-! the class's rows -/
def cv_rowb (r : Nat) : Bool := !ps_is r 5 || (Nat.beq (ps_c0 r 0) (r + 1) && (Nat.beq (ps_ln (r + 1)) 40 && ps_ar (r + 1) 0))
def cv_rowa (a : Nat) : Nat → Bool
  | 0 => true
  | n + 1 => cv_rowb (a + n) && cv_rowa a n
theorem cv_rowa_ok {a : Nat} : ∀ {n : Nat}, cv_rowa a n = true → ∀ r, a ≤ r → r < a + n → cv_rowb r = true
  | 0, _, r, h1, h2 => by omega
  | n + 1, h, r, h1, h2 => by
    unfold cv_rowa at h
    rw [Bool.and_eq_true] at h
    by_cases e : r = a + n
    · rw [e]; exact h.1
    · exact cv_rowa_ok h.2 r h1 (by omega)
set_option maxRecDepth 1000000
theorem cv_row_0 : cv_rowa 0 200 = true := by decide +kernel
theorem cv_row_1 : cv_rowa 200 200 = true := by decide +kernel
theorem cv_row_2 : cv_rowa 400 200 = true := by decide +kernel
theorem cv_row_3 : cv_rowa 600 200 = true := by decide +kernel
theorem cv_row_4 : cv_rowa 800 200 = true := by decide +kernel
theorem cv_row_5 : cv_rowa 1000 131 = true := by decide +kernel
theorem cv_row {r : Nat} (h : ps_is r 5 = true) : ps_c0 r 0 = r + 1 ∧ ps_ln (r + 1) = 40 ∧ ps_ar (r + 1) 0 = true ∧ r < 1131 := by
  have hr := xis_lt (by decide) h
  have k : cv_rowb r = true := by
    by_cases h0 : r < 200
    · exact cv_rowa_ok cv_row_0 r (by omega) (by omega)
    by_cases h1 : r < 400
    · exact cv_rowa_ok cv_row_1 r (by omega) (by omega)
    by_cases h2 : r < 600
    · exact cv_rowa_ok cv_row_2 r (by omega) (by omega)
    by_cases h3 : r < 800
    · exact cv_rowa_ok cv_row_3 r (by omega) (by omega)
    by_cases h4 : r < 1000
    · exact cv_rowa_ok cv_row_4 r (by omega) (by omega)
    exact cv_rowa_ok cv_row_5 r (by omega) (by omega)
  unfold cv_rowb at k
  rw [h, Bool.not_true, Bool.false_or, Bool.and_eq_true, Bool.and_eq_true] at k
  exact ⟨Nat.eq_of_beq_eq_true k.1, Nat.eq_of_beq_eq_true k.2.1, k.2.2, hr⟩
/-- a cell that is no row isn't the row -/
theorem cv_ne {r c : Nat} (h : ps_is r 5 = true) (hc : ps_is c 5 = false) : r ≠ c := fun e => by
  rw [e, hc] at h
  cases h
