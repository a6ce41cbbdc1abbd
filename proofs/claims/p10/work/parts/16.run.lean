/-! A SYMBOLIC RUN over pure states: from a place up to named places it answers what must hold -/
def ps_le (L L2 : pm_L) : Prop := ∀ (i : Nat) (v : Value), pm_lk L i = some v → pm_lk L2 i = some v
def ps_nu (L : pm_L) : Prop := (L.map Prod.fst).Nodup
theorem ps_le_refl (L : pm_L) : ps_le L L := fun _ _ h => h
theorem ps_lk_mem : ∀ {L : pm_L} {i : Nat} {v : Value}, pm_lk L i = some v → (i, v) ∈ L
  | [], _, _, h => by cases h
  | q :: L, i, v, h => by
    unfold pm_lk at h
    cases e : Nat.beq q.1 i with
    | true =>
      rw [e] at h
      have h1 := Nat.eq_of_beq_eq_true e
      cases h
      rw [← h1]
      exact List.mem_cons_self
    | false =>
      rw [e] at h
      exact List.mem_cons_of_mem _ (ps_lk_mem h)
theorem ps_mem_lk : ∀ {L : pm_L} {i : Nat} {v : Value}, ps_nu L → (i, v) ∈ L → pm_lk L i = some v
  | [], _, _, _, h => by cases h
  | q :: L, i, v, hn, h => by
    unfold ps_nu at hn
    rw [List.map_cons, List.nodup_cons] at hn
    unfold pm_lk
    rcases List.mem_cons.mp h with rfl | h
    · rw [Nat.beq_refl]; rfl
    · have hne : q.1 ≠ i := fun z => hn.1 (by rw [z]; exact List.mem_map.mpr ⟨_, h, rfl⟩)
      rw [pm_beq_f hne]
      exact ps_mem_lk hn.2 h
theorem ps_lk_filter {p : Nat × Value → Bool} : ∀ {L : pm_L} {i : Nat} {v : Value}, pm_lk L i = some v → p (i, v) = true → pm_lk (L.filter p) i = some v
  | [], _, _, h, _ => by cases h
  | q :: L, i, v, h, hp => by
    unfold pm_lk at h
    cases e : Nat.beq q.1 i with
    | true =>
      rw [e] at h
      have h1 := Nat.eq_of_beq_eq_true e
      cases h
      rw [← h1] at hp
      rw [List.filter_cons_of_pos hp]
      unfold pm_lk
      rw [e]
      rfl
    | false =>
      rw [e] at h
      have k := ps_lk_filter (p := p) h hp
      cases hq : p q with
      | true =>
        rw [List.filter_cons_of_pos hq]
        unfold pm_lk
        rw [e]
        exact k
      | false =>
        rw [List.filter_cons_of_neg (by rw [hq]; decide)]
        exact k
theorem ps_nu_filter {L : pm_L} (p : Nat × Value → Bool) (h : ps_nu L) : ps_nu (L.filter p) := by
  unfold ps_nu at *
  exact List.Nodup.sublist (List.Sublist.map _ List.filter_sublist) h
theorem ps_st_ok {L L2 : pm_L} {i : Nat} {v : Value} {p : Nat × Value → Bool} (hp : ∀ q, p q = true → q.1 ≠ i) (hn : ps_nu L) (h : ps_le L L2) : ps_nu ((i, v) :: L.filter p) ∧ ps_le ((i, v) :: L.filter p) ((i, v) :: L2.filter p) := by
  constructor
  · unfold ps_nu
    rw [List.map_cons, List.nodup_cons]
    refine ⟨fun z => ?_, ps_nu_filter p hn⟩
    obtain ⟨q, hq, e⟩ := List.mem_map.mp z
    exact hp q (List.mem_filter.mp hq).2 e
  · intro j u hj
    unfold pm_lk at hj ⊢
    cases e : Nat.beq i j with
    | true =>
      rw [e] at hj
      exact hj
    | false =>
      rw [e] at hj
      have m := List.mem_filter.mp (ps_lk_mem hj)
      exact ps_lk_filter (h _ _ (ps_mem_lk hn m.1)) m.2
theorem ps_st1_ok {L L2 : pm_L} {i : Nat} {v : Value} (hn : ps_nu L) (h : ps_le L L2) : ps_nu (pm_st1 L i v) ∧ ps_le (pm_st1 L i v) (pm_st1 L2 i v) :=
  ps_st_ok (fun q hq e => by rw [e, beq_self_eq_true] at hq; cases hq) hn h
theorem ps_st2_ok {L L2 : pm_L} {i : Nat} {v : Value} (hn : ps_nu L) (h : ps_le L L2) : ps_nu (pm_st2 L i v) ∧ ps_le (pm_st2 L i v) (pm_st2 L2 i v) :=
  ps_st_ok (fun q hq e => by rw [e, beq_self_eq_true] at hq; cases hq) hn h
/-- from here, in the state s, the method comes to an end of which Q holds -/
def ps_At (d y pc : Nat) (L : pm_L) (st : List Value) (s : ps_S) (Q : Option Value → ps_S → Prop) : Prop := ∀ (w : pm_W) (Lp : pm_L), ps_R w s → ps_le L Lp → pm_H none d y pc Lp st w (fun o w' => ∃ s', ps_R w' s' ∧ Q o s')
def ps_Cl (d t : Nat) (args : List Value) (s : ps_S) (Q : Option Value → ps_S → Prop) : Prop := ps_At d t 0 (lv_args 0 args) [] s Q
theorem ps_At.mono {d y pc : Nat} {L : pm_L} {st : List Value} {s : ps_S} {Q Q' : Option Value → ps_S → Prop} (h : ps_At d y pc L st s Q) (k : ∀ o s', Q o s' → Q' o s') : ps_At d y pc L st s Q' := by
  intro w Lp hw hL
  obtain ⟨o, w', h1, s', h2, h3⟩ := h w Lp hw hL
  exact ⟨o, w', h1, s', h2, k o s' h3⟩
theorem ps_Cl.mono {d t : Nat} {args : List Value} {s : ps_S} {Q Q' : Option Value → ps_S → Prop} (h : ps_Cl d t args s Q) (k : ∀ o s', Q o s' → Q' o s') : ps_Cl d t args s Q' := ps_At.mono h k
/-- what a test asks -/
def ps_nd (b : Bool) (P : Prop) : Prop := cond b P False
theorem ps_nd_i {b : Bool} {P : Prop} (h : b = true) (k : P) : ps_nd b P := by rw [h]; exact k
theorem ps_nd_e {b : Bool} {P : Prop} (h : ps_nd b P) : b = true ∧ P := by
  cases b
  · exact h.elim
  · exact ⟨rfl, h⟩
/-- what a test of kinds asks -/
def ps_nk (b : Bool) (P : Prop) : Prop := cond b P False
theorem ps_nk_i {b : Bool} {P : Prop} (h : b = true) (k : P) : ps_nk b P := by rw [h]; exact k
theorem ps_nk_e {b : Bool} {P : Prop} (h : ps_nk b P) : b = true ∧ P := by
  cases b
  · exact h.elim
  · exact ⟨rfl, h⟩
def ps_cd (c : ClassFile.Cond) (x y : Int32) (P Q : Prop) : Prop := match c with
  | .eq => (x = y → P) ∧ (x ≠ y → Q)
  | .ne => (x ≠ y → P) ∧ (x = y → Q)
  | .lt => (x < y → P) ∧ (y ≤ x → Q)
  | .ge => (y ≤ x → P) ∧ (x < y → Q)
  | .gt => (y < x → P) ∧ (x ≤ y → Q)
  | .le => (x ≤ y → P) ∧ (y < x → Q)
abbrev ps_k : Type := Nat → pm_L → List Value → ps_S → Prop
def ps_load (L : pm_L) (i pc : Nat) (st : List Value) (s : ps_S) (n : Nat) (is : Value → Bool) (k : ps_k) : Prop := match pm_lk L i with
  | some v => cond (is v) (k (pc + n) L (v :: st) s) False
  | none => False
def ps_sto (nL : Nat) (L : pm_L) (i pc : Nat) (st : List Value) (s : ps_S) (n : Nat) (is : Value → Bool) (k : ps_k) : Prop := match st with
  | v :: rest => cond (is v && Nat.blt i nL) (k (pc + n) (pm_st1 L i v) rest s) False
  | _ => False
def ps_stoJ (nL : Nat) (L : pm_L) (i pc : Nat) (st : List Value) (s : ps_S) (n : Nat) (k : ps_k) : Prop := match st with
  | .long x :: rest => cond (Nat.blt (i + 1) nL) (k (pc + n) (pm_st2 L i (.long x)) rest s) False
  | _ => False
def ps_pure : Instr → Bool
  | .iconst _ | .bipush _ | .sipush _ | .lconst _ | .ldc2_w _ | .iadd | .isub | .imul | .iand | .ior | .ishl | .ishr | .ladd | .lsub | .lmul | .land | .lor | .lxor | .lshl | .lcmp | .i2l | .l2i | .i2b | .dup | .dup2 | .pop | .pop2 | .goto _ => true
  | _ => false
theorem ps_pure_ok {X : Option (Nat × (Nat → Int32))} {own nL pc pc' : Nat} {b : Bool} {i : Instr} {L L' : pm_L} {st st' : List Value} {w w' : pm_W} (hp : ps_pure i = true) (h : pm_op none own nL false i pc [] st pm_w0 = some (pc', L', st', w')) : pm_op X own nL b i pc L st w = some (pc', L, st', w) := by
  cases i <;> first
    | (cases hp; done)
    | (simp only [pm_op, pm_bin, pm_binJ, Bool.cond_eq_ite] at h ⊢; (repeat' split at h) <;> first
      | (cases h; simp_all; done)
      | (cases h; done))
/-- the place behind an instruction that reads the stack alone (a number without variables) -/
def ps_pc (i : Instr) (pc : Nat) : Nat := match i with
  | .bipush _ => pc + 2
  | .sipush _ => pc + 3
  | .ldc2_w _ => pc + 3
  | .goto off => pm_tgt pc off
  | _ => pc + 1
theorem ps_pc_ok {own nL pc pc' : Nat} {i : Instr} {L' : pm_L} {st st' : List Value} {w' : pm_W} (hp : ps_pure i = true) (h : pm_op none own nL false i pc [] st pm_w0 = some (pc', L', st', w')) : pc' = ps_pc i pc := by
  cases i <;> first
    | (cases hp; done)
    | (simp only [pm_op, pm_bin, pm_binJ, Bool.cond_eq_ite] at h; (repeat' split at h) <;> first
      | (cases h; done)
      | (cases h; rfl; done))
/-- a switch, as tests one behind the other -/
def ps_sw (x : Int32) (k : Nat → Prop) (dflt : Nat) : List (Int32 × Nat) → Prop
  | [] => k dflt
  | q :: l => (x = q.1 → k q.2) ∧ (x ≠ q.1 → ps_sw x k dflt l)
def ps_zip (a : Int32) : List Nat → List (Int32 × Nat)
  | [] => []
  | t :: l => (a, t) :: ps_zip (a + 1) l
def ps_tb (pc : Nat) (off : Int) : Bool := decide ((pc : Int) + off = (pm_tgt pc off : Int))
def ps_op (own nL : Nat) (i : Instr) (pc : Nat) (L : pm_L) (st : List Value) (s : ps_S) (k : ps_k) : Prop :=
  match i with
  | .aload_n j => ps_load L j.val pc st s 1 pm_isA k
  | .aload j => ps_load L j pc st s 2 pm_isA k
  | .iload_n j => ps_load L j.val pc st s 1 pm_isI k
  | .iload j => ps_load L j pc st s 2 pm_isI k
  | .lload_n j => ps_load L j.val pc st s 1 pm_isJ k
  | .lload j => ps_load L j pc st s 2 pm_isJ k
  | .astore_n j => ps_sto nL L j.val pc st s 1 pm_isA k
  | .astore j => ps_sto nL L j pc st s 2 pm_isA k
  | .istore_n j => ps_sto nL L j.val pc st s 1 pm_isI k
  | .istore j => ps_sto nL L j pc st s 2 pm_isI k
  | .lstore_n j => ps_stoJ nL L j.val pc st s 1 k
  | .lstore j => ps_stoJ nL L j pc st s 2 k
  | .iinc j n => match pm_lk L j with
    | some (.int x) => cond (Nat.blt j nL) (k (pc + 3) (pm_st1 L j (.int (x + Int32.ofInt n))) st s) False
    | _ => False
  | .idiv => match st with
    | .int y :: .int x :: rest => ps_nd (!decide (y = 0)) (k (pc + 1) L (.int (x / y) :: rest) s)
    | _ => False
  | .irem => match st with
    | .int y :: .int x :: rest => ps_nd (!decide (y = 0)) (k (pc + 1) L (.int (x - (x / y) * y) :: rest) s)
    | _ => False
  | .ifCond c off => match st with
    | .int x :: rest => cond (ps_tb pc off) (ps_cd c x 0 (k (pm_tgt pc off) L rest s) (k (pc + 3) L rest s)) False
    | _ => False
  | .if_icmp c off => match st with
    | .int y :: .int x :: rest => cond (ps_tb pc off) (ps_cd c x y (k (pm_tgt pc off) L rest s) (k (pc + 3) L rest s)) False
    | _ => False
  | .tableswitch dflt lo hi offs => match st with
    | .int x :: rest => cond (ps_tb pc dflt && offs.toList.all (ps_tb pc) && decide (hi + 1 - lo = (offs.toList.length : Int)) && decide (-2147483648 ≤ lo) && decide (hi < 2147483647)) (ps_sw x (fun pc => k pc L rest s) (pm_tgt pc dflt) (ps_zip (Int32.ofInt lo) (offs.toList.map (pm_tgt pc)))) False
    | _ => False
  | .lookupswitch dflt l => match st with
    | .int x :: rest => cond (ps_tb pc dflt && l.toList.all (fun q => ps_tb pc q.2 && decide (-2147483648 ≤ q.1 ∧ q.1 < 2147483648)) && (l.toList.zip (l.toList.drop 1)).all (fun q => decide (q.1.1 < q.2.1))) (ps_sw x (fun pc => k pc L rest s) (pm_tgt pc dflt) (l.toList.map (fun q => (Int32.ofInt q.1, pm_tgt pc q.2)))) False
    | _ => False
  | .getfield j => match st with
    | .ref r :: rest => match pm_l4 (pm_FL own) j with
      | some (_, c, q, _) => cond (Nat.blt c 13 && Nat.blt q (pm_Ts c).length) (ps_nk (ps_is r c) (k (pc + 3) L (ps_fv s c r q :: rest) s)) False
      | none => False
    | _ => False
  | .putfield j => match st with
    | v :: .ref r :: rest => match pm_l4 (pm_FL own) j with
      | some (_, c, q, _) => cond (Nat.blt c 13 && Nat.blt q (pm_Ts c).length && !ps_fin c q) (ps_nk (ps_is r c) (match (pm_Ts c).getD q .int, v with
        | .int, .int x => k (pc + 3) L rest (ps_ui s r q x)
        | .boolean, .int x => ps_nd (decide (x &&& 1 = x)) (k (pc + 3) L rest (ps_ui s r q x))
        | .long, .long x => k (pc + 3) L rest (ps_uj s r q x)
        | .object _, .ref x => k (pc + 3) L rest (ps_ur s r q x)
        | .array _, .ref x => k (pc + 3) L rest (ps_ur s r q x)
        | _, _ => False)) False
      | none => False
    | _ => False
  | .iaload => match st with
    | .int i :: .ref r :: rest => ps_nk (ps_ar r 0) (ps_nd (pm_in i (ps_ln r)) (k (pc + 1) L (.int (ps_a s r i.toNatClampNeg) :: rest) s))
    | _ => False
  | .baload => match st with
    | .int i :: .ref r :: rest => ps_nk (ps_ar r 1 || ps_ar r 2) (ps_nd (pm_in i (ps_ln r)) (k (pc + 1) L (.int (ps_a s r i.toNatClampNeg) :: rest) s))
    | _ => False
  | .laload => match st with
    | .int i :: .ref r :: rest => ps_nk (ps_ar r 3) (ps_nd (pm_in i (ps_ln r)) (k (pc + 1) L (.long (ps_b s r i.toNatClampNeg) :: rest) s))
    | _ => False
  | .aaload => match st with
    | .int i :: .ref r :: rest => ps_nk (ps_ar r 4 || ps_ar r 5 || ps_ar r 6 || ps_ar r 7) (ps_nd (pm_in i (ps_ln r)) (k (pc + 1) L (.ref (ps_e0 r i.toNatClampNeg) :: rest) s))
    | _ => False
  | .iastore => match st with
    | .int x :: .int i :: .ref r :: rest => ps_nk (ps_ar r 0) (ps_nd (pm_in i (ps_ln r)) (k (pc + 1) L rest (ps_ua s r i.toNatClampNeg x)))
    | _ => False
  | .bastore => match st with
    | .int x :: .int i :: .ref r :: rest => ps_nk (ps_ar r 1 || ps_ar r 2) (ps_nd (pm_in i (ps_ln r)) (k (pc + 1) L rest (ps_ua s r i.toNatClampNeg (cond (ps_ar r 1) x.toInt8.toInt32 (x &&& 1)))))
    | _ => False
  | .lastore => match st with
    | .long x :: .int i :: .ref r :: rest => ps_nk (ps_ar r 3) (ps_nd (pm_in i (ps_ln r)) (k (pc + 1) L rest (ps_ub s r i.toNatClampNeg x)))
    | _ => False
  | .arraylength => match st with
    | .ref r :: rest => ps_nk (Nat.beq (ps_K r).1 0) (k (pc + 1) L (.int (nI (ps_ln r)) :: rest) s)
    | _ => False
  | i => cond (ps_pure i) (match pm_op none own nL false i pc [] st pm_w0 with
    | some q => k (ps_pc i pc) L q.2.2.1 s
    | none => False) False
