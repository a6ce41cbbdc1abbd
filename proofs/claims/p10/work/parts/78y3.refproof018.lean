set_option maxRecDepth 100000
section
variable {T : Nat → Nat} {N : Nat} {h : tx_H} {s0 s : ps_S} {b i : Nat} {P : List tp_P} {c : tp_P} {fr : List (List Nat)} {q : Nat} {C0 : pv_C} {R : ps_S → Prop}
theorem fm_217p {n : Nat} {R : Int32 → ps_S → Prop} (L : rv_L s b T N h fr q) (h2 : (tx_tok T N q).1 = 2) (k : ∀ v s', rv_F s b T N h fr q v s' → R v s') : pl_Cl n 217 [.ref 1131] s (ps_rI R) := by
  cases n with
  | zero => exact pl_At_0
  | succ n =>
  show pl_At (n + 1) 217 0 [(0, .ref 1131)] [] s (ps_rI R)
  refine pl_217_0 ?_
  exact fm_217p_2 L h2 k n (j := 0) rfl (Nat.zero_le _) (fun j hj => by omega)

/-- what is kept of a step, but for its X, term, formula -/
def rq5 (s : ps_S) (i : Nat) (c : tp_P) : Prop := (ps_a s 1152 i).toInt = (kd c.1.1 : Nat) ∧ (∀ m, m < tp_nn c.1.1 → (ps_a s (1153 + m) i).toInt = pr_k c m) ∧ (c.1.1 = 10 → (ps_a s 1153 i).toInt = c.2.1.1)

def rq7 (s : ps_S) (i : Nat) (c : tp_P) : Prop := rq5 s i c ∧ (tp_ht c.1.1 → mv_W s (24108 + 41 * i) c.2.2.1)

def rq8 (s : ps_S) (i : Nat) (c : tp_P) : Prop := rq7 s i c ∧ (tp_hf c.1.1 → mv_W s (22468 + 41 * i) c.2.2.2)

theorem rq8_T {s : ps_S} {i : Nat} {c : tp_P} (M : rq8 s i c) (hX : tp_hx c.1.1 → (ps_a s 1156 i).toInt = c.2.1.2) : rkT s i c := by
  obtain ⟨⟨⟨m1, m2, m3⟩, m4⟩, m5⟩ := M
  exact ⟨m1, fun z => m2 0 (by omega), fun z => m2 1 (by omega), fun z => m2 2 (by omega), m3, hX, m4, m5⟩

end
