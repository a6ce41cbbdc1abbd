/-! one call on a fresh object -/
section PMB
variable {X : Option (Nat × (Nat → Int32))} {d y pc pc' k : Nat} {L : pm_L} {st rest : List Value} {w : pm_W} {r : Option Value × pm_W}
theorem pm_T.go {i : Instr} {L' : pm_L} {st' : List Value} {w' : pm_W} (hc : pm_code y pc = some (i, k)) (hR : pm_isR i = false) (hcal : pm_cal i = (0, 0)) (ho : pm_op X (pm_own y) (pm_ml y) (pm_ini y) i pc L st w = some (pc', L', st', w')) (h : pm_T X d y pc' L' st' w' r) : pm_T X d y pc L st w r := by
  obtain ⟨c, n2, k2⟩ := w'
  exact pm_T.op hc hR hcal ho h
theorem pm_T.brif {cd : ClassFile.Cond} {off : Int} {x : Int32} {b : Bool} (hc : pm_code y pc = some (.ifCond cd off, k)) (hst : st = .int x :: rest) (hb : pm_cnd cd x 0 = b) (ht : decide ((pc : Int) + off = (pm_tgt pc off : Int)) = true) (hp : cond b (pm_tgt pc off) (pc + 3) = pc') (h : pm_T X d y pc' L rest w r) : pm_T X d y pc L st w r := by
  refine pm_T.go hc rfl rfl (w' := w) ?_ h
  subst hst
  show cond (decide ((pc : Int) + off = (pm_tgt pc off : Int))) (some (cond (pm_cnd cd x 0) (pm_tgt pc off) (pc + 3), L, rest, w)) none = _
  rw [ht, hb, hp]
  rfl
theorem pm_T.bricmp {cd : ClassFile.Cond} {off : Int} {x x2 : Int32} {b : Bool} (hc : pm_code y pc = some (.if_icmp cd off, k)) (hst : st = .int x2 :: .int x :: rest) (hb : pm_cnd cd x x2 = b) (ht : decide ((pc : Int) + off = (pm_tgt pc off : Int)) = true) (hp : cond b (pm_tgt pc off) (pc + 3) = pc') (h : pm_T X d y pc' L rest w r) : pm_T X d y pc L st w r := by
  refine pm_T.go hc rfl rfl (w' := w) ?_ h
  subst hst
  show cond (decide ((pc : Int) + off = (pm_tgt pc off : Int))) (some (cond (pm_cnd cd x x2) (pm_tgt pc off) (pc + 3), L, rest, w)) none = _
  rw [ht, hb, hp]
  rfl
theorem pm_T.tsw {dflt lo hi : Int} {offs : Array Int} {x : Int32} (hc : pm_code y pc = some (.tableswitch dflt lo hi offs, k)) (hst : st = .int x :: rest) (hb : x.toInt < lo ∨ hi < x.toInt) (ht : decide ((pc : Int) + dflt = (pm_tgt pc dflt : Int)) = true) (hp : pm_tgt pc dflt = pc') (h : pm_T X d y pc' L rest w r) : pm_T X d y pc L st w r := by
  refine pm_T.go hc rfl rfl (w' := w) ?_ h
  subst hst
  unfold pm_op
  dsimp only
  rw [decide_eq_true hb, ht, hp]
  rfl
theorem pm_T.lsw {dflt : Int} {ps : Array (Int × Int)} {x : Int32} (hc : pm_code y pc = some (.lookupswitch dflt ps, k)) (hst : st = .int x :: rest) (hps : (ps.toList.zip (ps.toList.drop 1)).all (fun q => decide (q.1.1 < q.2.1)) = true) (hb : Op.lookupswitch.offset ps.toList dflt x.toInt = dflt) (ht : decide ((pc : Int) + dflt = (pm_tgt pc dflt : Int)) = true) (hp : pm_tgt pc dflt = pc') (h : pm_T X d y pc' L rest w r) : pm_T X d y pc L st w r := by
  refine pm_T.go hc rfl rfl (w' := w) ?_ h
  subst hst
  unfold pm_op
  dsimp only
  rw [hps, hb, ht, hp]
  rfl
end PMB
def pm_ci (c : ClassFile.Cond) (x y : Int) : Bool := match c with
  | .eq => decide (x = y)
  | .ne => !decide (x = y)
  | .lt => decide (x < y)
  | .ge => decide (y ≤ x)
  | .gt => decide (y < x)
  | .le => decide (x ≤ y)
theorem pm_cnd_ci (c : ClassFile.Cond) (x y : Int32) : pm_cnd c x y = pm_ci c x.toInt y.toInt := by
  cases c <;> simp [pm_cnd, pm_ci, Int32.lt_iff_toInt_lt, Int32.le_iff_toInt_le, Int32.toInt_inj]
def p1_Ok (tX tM : Nat) (av : List Value) : Prop := ∃ (v : Int32) (w2 w3 : pm_W), pm_T none 299 tX 0 (lv_args 0 (.ref 0 :: av)) [] pm_w1 (some (.int v), w2) ∧ pm_T none 299 tM 0 (lv_args 0 (.ref 1131 :: av)) [] w2 (some (.int v), w3) ∧ w3.2 = pm_w1.2
def p1_OkJ (tX tM : Nat) (av : List Value) : Prop := ∃ (v : Int64) (w2 w3 : pm_W), pm_T none 299 tX 0 (lv_args 0 (.ref 0 :: av)) [] pm_w1 (some (.long v), w2) ∧ pm_T none 299 tM 0 (lv_args 0 (.ref 1131 :: av)) [] w2 (some (.long v), w3) ∧ w3.2 = pm_w1.2
noncomputable def p1_ck (tX tM : Nat) (av : List Value) : Bool := match pm_run none 20000 299 tX 0 (lv_args 0 (.ref 0 :: av)) [] pm_w1 with
  | some (some (.int v), w2) => match pm_run none 20000 299 tM 0 (lv_args 0 (.ref 1131 :: av)) [] w2 with
    | some (some (.int v'), w3) => decide (v = v') && (Nat.beq w3.2.1 pm_w1.2.1 && Nat.beq w3.2.2 pm_w1.2.2)
    | _ => false
  | _ => false
theorem p1_ck_ok {tX tM : Nat} {av : List Value} (h : p1_ck tX tM av = true) : p1_Ok tX tM av := by
  unfold p1_ck at h
  split at h
  · next v w2 h2 =>
    split at h
    · next v' w3 h3 =>
      rw [Bool.and_eq_true, Bool.and_eq_true] at h
      have e := of_decide_eq_true h.1
      subst e
      exact ⟨v, w2, w3, ⟨_, h2⟩, ⟨_, h3⟩, Prod.ext (Nat.eq_of_beq_eq_true h.2.1) (Nat.eq_of_beq_eq_true h.2.2)⟩
    · cases h
  · cases h
set_option maxRecDepth 100000
theorem pm_lsw2 {a b d z : Int} (h0 : z ≠ 0) (h1 : z ≠ 1) : Op.lookupswitch.offset [(0, a), (1, b)] d z = d := by
  show (if 0 = z then a else if 1 = z then b else d) = d
  rw [if_neg (Ne.symm h0), if_neg (Ne.symm h1)]
theorem p1_theory : p1_Ok 151 201 [] := p1_ck_ok (by decide +kernel)
theorem p1_prove : p1_Ok 153 240 [] := p1_ck_ok (by decide +kernel)
theorem p1_keep : p1_Ok 158 268 [] := p1_ck_ok (by decide +kernel)
theorem p1_drop : p1_Ok 161 273 [] := p1_ck_ok (by decide +kernel)
theorem p1_read : p1_Ok 162 274 [] := p1_ck_ok (by decide +kernel)
theorem p1_alike : p1_Ok 164 276 [] := p1_ck_ok (by decide +kernel)
theorem p1_letters : p1_Ok 166 280 [] := p1_ck_ok (by decide +kernel)
theorem p1_table : p1_Ok 167 281 [] := p1_ck_ok (by decide +kernel)
theorem p1_row : p1_Ok 168 282 [] := p1_ck_ok (by decide +kernel)
theorem p1_rewrite : p1_Ok 169 288 [] := p1_ck_ok (by decide +kernel)
theorem p1_rules : p1_Ok 171 285 [] := p1_ck_ok (by decide +kernel)
theorem p1_end_0 : p1_Ok 150 309 [.int 0] := p1_ck_ok (by decide +kernel)
theorem p1_end_n_x (a : Int32) (hn : pm_cnd .lt a 0 = true) : pm_T none 299 150 0 (lv_args 0 [.ref 0, .int a]) [] pm_w1 (some (.int (Int32.ofInt (-1))), pm_w1) := by
  refine pm_T.go (pc' := 1) rfl rfl rfl rfl ?_
  have h1 : pm_cnd .lt a 0 = true := by simp [pm_cnd_ci, pm_ci] at hn ⊢ <;> omega
  refine pm_T.brif (b := true) (pc' := 12) rfl rfl h1 rfl rfl ?_
  refine pm_T.go (pc' := 13) rfl rfl rfl rfl ?_
  exact pm_T.ret rfl rfl rfl
theorem p1_end_n_m (a : Int32) (hn : pm_cnd .lt a 0 = true) : pm_T none 299 309 0 (lv_args 0 [.ref 1131, .int a]) [] pm_w1 (some (.int (Int32.ofInt (-1))), pm_w1) := by
  refine pm_T.go (pc' := 1) rfl rfl rfl rfl ?_
  have h1 : pm_cnd .lt a 0 = true := by simp [pm_cnd_ci, pm_ci] at hn ⊢ <;> omega
  refine pm_T.brif (b := true) (pc' := 12) rfl rfl h1 rfl rfl ?_
  refine pm_T.go (pc' := 13) rfl rfl rfl rfl ?_
  exact pm_T.ret rfl rfl rfl
theorem p1_end_n (a : Int32) (hn : pm_cnd .lt a 0 = true) : p1_Ok 150 309 [.int a] := ⟨_, _, _, p1_end_n_x a hn, p1_end_n_m a hn, rfl⟩
theorem p1_end_p_x (a : Int32) (hn : pm_cnd .ge a 1 = true) : pm_T none 299 150 0 (lv_args 0 [.ref 0, .int a]) [] pm_w1 (some (.int (Int32.ofInt (-1))), pm_w1) := by
  refine pm_T.go (pc' := 1) rfl rfl rfl rfl ?_
  have h1 : pm_cnd .lt a 0 = false := by simp [pm_cnd_ci, pm_ci] at hn ⊢ <;> omega
  refine pm_T.brif (b := false) (pc' := 4) rfl rfl h1 rfl rfl ?_
  refine pm_T.go (pc' := 5) rfl rfl rfl rfl ?_
  refine pm_T.go (pc' := 6) rfl rfl rfl rfl ?_
  refine pm_T.go (pc' := 9) rfl rfl rfl rfl ?_
  have h2 : pm_cnd .le a 0 = false := by simp [pm_cnd_ci, pm_ci] at hn h1 ⊢ <;> omega
  refine pm_T.bricmp (b := false) (pc' := 12) rfl rfl h2 rfl rfl ?_
  refine pm_T.go (pc' := 13) rfl rfl rfl rfl ?_
  exact pm_T.ret rfl rfl rfl
theorem p1_end_p_m (a : Int32) (hn : pm_cnd .ge a 1 = true) : pm_T none 299 309 0 (lv_args 0 [.ref 1131, .int a]) [] pm_w1 (some (.int (Int32.ofInt (-1))), pm_w1) := by
  refine pm_T.go (pc' := 1) rfl rfl rfl rfl ?_
  have h1 : pm_cnd .lt a 0 = false := by simp [pm_cnd_ci, pm_ci] at hn ⊢ <;> omega
  refine pm_T.brif (b := false) (pc' := 4) rfl rfl h1 rfl rfl ?_
  refine pm_T.go (pc' := 5) rfl rfl rfl rfl ?_
  refine pm_T.go (pc' := 6) rfl rfl rfl rfl ?_
  refine pm_T.go (pc' := 9) rfl rfl rfl rfl ?_
  have h2 : pm_cnd .le a 0 = false := by simp [pm_cnd_ci, pm_ci] at hn h1 ⊢ <;> omega
  refine pm_T.bricmp (b := false) (pc' := 12) rfl rfl h2 rfl rfl ?_
  refine pm_T.go (pc' := 13) rfl rfl rfl rfl ?_
  exact pm_T.ret rfl rfl rfl
theorem p1_end_p (a : Int32) (hn : pm_cnd .ge a 1 = true) : p1_Ok 150 309 [.int a] := ⟨_, _, _, p1_end_p_x a hn, p1_end_p_m a hn, rfl⟩
theorem p1_end (a : Int32) : p1_Ok 150 309 [.int a] := by
  rcases pk_ix a (n := 1) (by decide) with h | h | ⟨j, hj, rfl⟩
  · exact p1_end_n a (decide_eq_true h)
  · exact p1_end_p a (decide_eq_true h)
  · rcases (show j = 0 by omega) with rfl
    · exact p1_end_0
theorem p1_fault_0 : p1_Ok 152 199 [.int 0] := p1_ck_ok (by decide +kernel)
theorem p1_fault_1 : p1_Ok 152 199 [.int 1] := p1_ck_ok (by decide +kernel)
theorem p1_fault_n_x (a : Int32) (hn : pm_cnd .lt a 0 = true) : pm_T none 299 152 0 (lv_args 0 [.ref 0, .int a]) [] pm_w1 (some (.int (Int32.ofInt (-1))), pm_w1) := by
  refine pm_T.go (pc' := 1) rfl rfl rfl rfl ?_
  refine pm_T.lsw (pc' := 44) rfl rfl rfl (pm_lsw2 (by simp [pm_cnd_ci, pm_ci] at hn ⊢ <;> omega) (by simp [pm_cnd_ci, pm_ci] at hn ⊢ <;> omega)) rfl rfl ?_
  refine pm_T.go (pc' := 45) rfl rfl rfl rfl ?_
  exact pm_T.ret rfl rfl rfl
theorem p1_fault_n_m (a : Int32) (hn : pm_cnd .lt a 0 = true) : pm_T none 299 199 0 (lv_args 0 [.ref 1131, .int a]) [] pm_w1 (some (.int (Int32.ofInt (-1))), pm_w1) := by
  refine pm_T.go (pc' := 1) rfl rfl rfl rfl ?_
  have h1 : pm_cnd .ne a 0 = true := by simp [pm_cnd_ci, pm_ci] at hn ⊢ <;> omega
  refine pm_T.brif (b := true) (pc' := 11) rfl rfl h1 rfl rfl ?_
  refine pm_T.go (pc' := 12) rfl rfl rfl rfl ?_
  refine pm_T.go (pc' := 13) rfl rfl rfl rfl ?_
  have h2 : pm_cnd .ne a 1 = true := by simp [pm_cnd_ci, pm_ci] at hn h1 ⊢ <;> omega
  refine pm_T.bricmp (b := true) (pc' := 23) rfl rfl h2 rfl rfl ?_
  refine pm_T.go (pc' := 24) rfl rfl rfl rfl ?_
  exact pm_T.ret rfl rfl rfl
theorem p1_fault_n (a : Int32) (hn : pm_cnd .lt a 0 = true) : p1_Ok 152 199 [.int a] := ⟨_, _, _, p1_fault_n_x a hn, p1_fault_n_m a hn, rfl⟩
theorem p1_fault_p_x (a : Int32) (hn : pm_cnd .ge a 2 = true) : pm_T none 299 152 0 (lv_args 0 [.ref 0, .int a]) [] pm_w1 (some (.int (Int32.ofInt (-1))), pm_w1) := by
  refine pm_T.go (pc' := 1) rfl rfl rfl rfl ?_
  refine pm_T.lsw (pc' := 44) rfl rfl rfl (pm_lsw2 (by simp [pm_cnd_ci, pm_ci] at hn ⊢ <;> omega) (by simp [pm_cnd_ci, pm_ci] at hn ⊢ <;> omega)) rfl rfl ?_
  refine pm_T.go (pc' := 45) rfl rfl rfl rfl ?_
  exact pm_T.ret rfl rfl rfl
theorem p1_fault_p_m (a : Int32) (hn : pm_cnd .ge a 2 = true) : pm_T none 299 199 0 (lv_args 0 [.ref 1131, .int a]) [] pm_w1 (some (.int (Int32.ofInt (-1))), pm_w1) := by
  refine pm_T.go (pc' := 1) rfl rfl rfl rfl ?_
  have h1 : pm_cnd .ne a 0 = true := by simp [pm_cnd_ci, pm_ci] at hn ⊢ <;> omega
  refine pm_T.brif (b := true) (pc' := 11) rfl rfl h1 rfl rfl ?_
  refine pm_T.go (pc' := 12) rfl rfl rfl rfl ?_
  refine pm_T.go (pc' := 13) rfl rfl rfl rfl ?_
  have h2 : pm_cnd .ne a 1 = true := by simp [pm_cnd_ci, pm_ci] at hn h1 ⊢ <;> omega
  refine pm_T.bricmp (b := true) (pc' := 23) rfl rfl h2 rfl rfl ?_
  refine pm_T.go (pc' := 24) rfl rfl rfl rfl ?_
  exact pm_T.ret rfl rfl rfl
theorem p1_fault_p (a : Int32) (hn : pm_cnd .ge a 2 = true) : p1_Ok 152 199 [.int a] := ⟨_, _, _, p1_fault_p_x a hn, p1_fault_p_m a hn, rfl⟩
theorem p1_fault (a : Int32) : p1_Ok 152 199 [.int a] := by
  rcases pk_ix a (n := 2) (by decide) with h | h | ⟨j, hj, rfl⟩
  · exact p1_fault_n a (decide_eq_true h)
  · exact p1_fault_p a (decide_eq_true h)
  · rcases (show j = 0 ∨ j = 1 by omega) with rfl | rfl
    · exact p1_fault_0
    · exact p1_fault_1
theorem p1_refused_0 : p1_Ok 154 261 [.int 0] := p1_ck_ok (by decide +kernel)
theorem p1_refused_1 : p1_Ok 154 261 [.int 1] := p1_ck_ok (by decide +kernel)
theorem p1_refused_n_x (a : Int32) (hn : pm_cnd .lt a 0 = true) : pm_T none 299 154 0 (lv_args 0 [.ref 0, .int a]) [] pm_w1 (some (.int (Int32.ofInt (-1))), pm_w1) := by
  refine pm_T.go (pc' := 1) rfl rfl rfl rfl ?_
  refine pm_T.go (pc' := 4) rfl rfl rfl rfl ?_
  refine pm_T.go (pc' := 7) rfl rfl rfl rfl ?_
  refine pm_T.go (pc' := 10) rfl rfl rfl rfl ?_
  refine pm_T.go (pc' := 11) rfl rfl rfl rfl ?_
  exact pm_T.ret rfl rfl rfl
theorem p1_refused_n_m (a : Int32) (hn : pm_cnd .lt a 0 = true) : pm_T none 299 261 0 (lv_args 0 [.ref 1131, .int a]) [] pm_w1 (some (.int (Int32.ofInt (-1))), pm_w1) := by
  refine pm_T.go (pc' := 1) rfl rfl rfl rfl ?_
  have h1 : pm_cnd .ne a 0 = true := by simp [pm_cnd_ci, pm_ci] at hn ⊢ <;> omega
  refine pm_T.brif (b := true) (pc' := 11) rfl rfl h1 rfl rfl ?_
  refine pm_T.go (pc' := 12) rfl rfl rfl rfl ?_
  refine pm_T.go (pc' := 13) rfl rfl rfl rfl ?_
  have h2 : pm_cnd .ne a 1 = true := by simp [pm_cnd_ci, pm_ci] at hn h1 ⊢ <;> omega
  refine pm_T.bricmp (b := true) (pc' := 23) rfl rfl h2 rfl rfl ?_
  refine pm_T.go (pc' := 24) rfl rfl rfl rfl ?_
  exact pm_T.ret rfl rfl rfl
theorem p1_refused_n (a : Int32) (hn : pm_cnd .lt a 0 = true) : p1_Ok 154 261 [.int a] := ⟨_, _, _, p1_refused_n_x a hn, p1_refused_n_m a hn, rfl⟩
theorem p1_refused_p_x (a : Int32) (hn : pm_cnd .ge a 2 = true) : pm_T none 299 154 0 (lv_args 0 [.ref 0, .int a]) [] pm_w1 (some (.int (Int32.ofInt (-1))), pm_w1) := by
  refine pm_T.go (pc' := 1) rfl rfl rfl rfl ?_
  refine pm_T.go (pc' := 4) rfl rfl rfl rfl ?_
  refine pm_T.go (pc' := 7) rfl rfl rfl rfl ?_
  refine pm_T.go (pc' := 10) rfl rfl rfl rfl ?_
  refine pm_T.go (pc' := 11) rfl rfl rfl rfl ?_
  exact pm_T.ret rfl rfl rfl
theorem p1_refused_p_m (a : Int32) (hn : pm_cnd .ge a 2 = true) : pm_T none 299 261 0 (lv_args 0 [.ref 1131, .int a]) [] pm_w1 (some (.int (Int32.ofInt (-1))), pm_w1) := by
  refine pm_T.go (pc' := 1) rfl rfl rfl rfl ?_
  have h1 : pm_cnd .ne a 0 = true := by simp [pm_cnd_ci, pm_ci] at hn ⊢ <;> omega
  refine pm_T.brif (b := true) (pc' := 11) rfl rfl h1 rfl rfl ?_
  refine pm_T.go (pc' := 12) rfl rfl rfl rfl ?_
  refine pm_T.go (pc' := 13) rfl rfl rfl rfl ?_
  have h2 : pm_cnd .ne a 1 = true := by simp [pm_cnd_ci, pm_ci] at hn h1 ⊢ <;> omega
  refine pm_T.bricmp (b := true) (pc' := 23) rfl rfl h2 rfl rfl ?_
  refine pm_T.go (pc' := 24) rfl rfl rfl rfl ?_
  exact pm_T.ret rfl rfl rfl
theorem p1_refused_p (a : Int32) (hn : pm_cnd .ge a 2 = true) : p1_Ok 154 261 [.int a] := ⟨_, _, _, p1_refused_p_x a hn, p1_refused_p_m a hn, rfl⟩
theorem p1_refused (a : Int32) : p1_Ok 154 261 [.int a] := by
  rcases pk_ix a (n := 2) (by decide) with h | h | ⟨j, hj, rfl⟩
  · exact p1_refused_n a (decide_eq_true h)
  · exact p1_refused_p a (decide_eq_true h)
  · rcases (show j = 0 ∨ j = 1 by omega) with rfl | rfl
    · exact p1_refused_0
    · exact p1_refused_1
theorem p1_about_0 : p1_Ok 178 307 [.int 0] := p1_ck_ok (by decide +kernel)
theorem p1_about_1 : p1_Ok 178 307 [.int 1] := p1_ck_ok (by decide +kernel)
theorem p1_about_2 : p1_Ok 178 307 [.int 2] := p1_ck_ok (by decide +kernel)
theorem p1_about_3 : p1_Ok 178 307 [.int 3] := p1_ck_ok (by decide +kernel)
theorem p1_about_4 : p1_Ok 178 307 [.int 4] := p1_ck_ok (by decide +kernel)
theorem p1_about_5 : p1_Ok 178 307 [.int 5] := p1_ck_ok (by decide +kernel)
theorem p1_about_6 : p1_Ok 178 307 [.int 6] := p1_ck_ok (by decide +kernel)
theorem p1_about_n_x (a : Int32) (hn : pm_cnd .lt a 0 = true) : pm_T none 299 178 0 (lv_args 0 [.ref 0, .int a]) [] pm_w1 (some (.int (Int32.ofInt (-1))), pm_w1) := by
  refine pm_T.go (pc' := 1) rfl rfl rfl rfl ?_
  refine pm_T.tsw (pc' := 97) rfl rfl (Or.inl (by simp [pm_cnd_ci, pm_ci] at hn ⊢ <;> omega)) rfl rfl ?_
  refine pm_T.go (pc' := 98) rfl rfl rfl rfl ?_
  exact pm_T.ret rfl rfl rfl
theorem p1_about_n_m (a : Int32) (hn : pm_cnd .lt a 0 = true) : pm_T none 299 307 0 (lv_args 0 [.ref 1131, .int a]) [] pm_w1 (some (.int (Int32.ofInt (-1))), pm_w1) := by
  refine pm_T.go (pc' := 1) rfl rfl rfl rfl ?_
  refine pm_T.tsw (pc' := 97) rfl rfl (Or.inl (by simp [pm_cnd_ci, pm_ci] at hn ⊢ <;> omega)) rfl rfl ?_
  refine pm_T.go (pc' := 98) rfl rfl rfl rfl ?_
  exact pm_T.ret rfl rfl rfl
theorem p1_about_n (a : Int32) (hn : pm_cnd .lt a 0 = true) : p1_Ok 178 307 [.int a] := ⟨_, _, _, p1_about_n_x a hn, p1_about_n_m a hn, rfl⟩
theorem p1_about_p_x (a : Int32) (hn : pm_cnd .ge a 7 = true) : pm_T none 299 178 0 (lv_args 0 [.ref 0, .int a]) [] pm_w1 (some (.int (Int32.ofInt (-1))), pm_w1) := by
  refine pm_T.go (pc' := 1) rfl rfl rfl rfl ?_
  refine pm_T.tsw (pc' := 97) rfl rfl (Or.inr (by simp [pm_cnd_ci, pm_ci] at hn ⊢ <;> omega)) rfl rfl ?_
  refine pm_T.go (pc' := 98) rfl rfl rfl rfl ?_
  exact pm_T.ret rfl rfl rfl
theorem p1_about_p_m (a : Int32) (hn : pm_cnd .ge a 7 = true) : pm_T none 299 307 0 (lv_args 0 [.ref 1131, .int a]) [] pm_w1 (some (.int (Int32.ofInt (-1))), pm_w1) := by
  refine pm_T.go (pc' := 1) rfl rfl rfl rfl ?_
  refine pm_T.tsw (pc' := 97) rfl rfl (Or.inr (by simp [pm_cnd_ci, pm_ci] at hn ⊢ <;> omega)) rfl rfl ?_
  refine pm_T.go (pc' := 98) rfl rfl rfl rfl ?_
  exact pm_T.ret rfl rfl rfl
theorem p1_about_p (a : Int32) (hn : pm_cnd .ge a 7 = true) : p1_Ok 178 307 [.int a] := ⟨_, _, _, p1_about_p_x a hn, p1_about_p_m a hn, rfl⟩
theorem p1_about (a : Int32) : p1_Ok 178 307 [.int a] := by
  rcases pk_ix a (n := 7) (by decide) with h | h | ⟨j, hj, rfl⟩
  · exact p1_about_n a (decide_eq_true h)
  · exact p1_about_p a (decide_eq_true h)
  · rcases (show j = 0 ∨ j = 1 ∨ j = 2 ∨ j = 3 ∨ j = 4 ∨ j = 5 ∨ j = 6 by omega) with rfl | rfl | rfl | rfl | rfl | rfl | rfl
    · exact p1_about_0
    · exact p1_about_1
    · exact p1_about_2
    · exact p1_about_3
    · exact p1_about_4
    · exact p1_about_5
    · exact p1_about_6
theorem p1_image_0 : p1_Ok 176 305 [.int 0] := p1_ck_ok (by decide +kernel)
theorem p1_image_1 : p1_Ok 176 305 [.int 1] := p1_ck_ok (by decide +kernel)
theorem p1_image_2 : p1_Ok 176 305 [.int 2] := p1_ck_ok (by decide +kernel)
theorem p1_image_n_x (a : Int32) (hn : pm_cnd .lt a 0 = true) : pm_T none 299 176 0 (lv_args 0 [.ref 0, .int a]) [] pm_w1 (some (.int (Int32.ofInt (-1))), pm_w1) := by
  refine pm_T.go (pc' := 1) rfl rfl rfl rfl ?_
  have h1 : pm_cnd .lt a 0 = true := by simp [pm_cnd_ci, pm_ci] at hn ⊢ <;> omega
  refine pm_T.brif (b := true) (pc' := 13) rfl rfl h1 rfl rfl ?_
  refine pm_T.go (pc' := 14) rfl rfl rfl rfl ?_
  exact pm_T.ret rfl rfl rfl
theorem p1_image_n_m (a : Int32) (hn : pm_cnd .lt a 0 = true) : pm_T none 299 305 0 (lv_args 0 [.ref 1131, .int a]) [] pm_w1 (some (.int (Int32.ofInt (-1))), pm_w1) := by
  refine pm_T.go (pc' := 1) rfl rfl rfl rfl ?_
  refine pm_T.go (pc' := 2) rfl rfl rfl rfl ?_
  refine pm_T.go (pc' := 3) rfl rfl rfl rfl ?_
  refine pm_T.call (d' := 298) (o1 := some (.int 0)) (w1 := pm_w1) rfl rfl rfl (by decide) rfl (by decide) rfl rfl ?_ ?_
  · skip
    refine pm_T.go (pc' := 1) rfl rfl rfl rfl ?_
    refine pm_T.go (pc' := 2) rfl rfl rfl rfl ?_
    have h1 : pm_cnd .lt a 0 = true := by simp [pm_cnd_ci, pm_ci] at hn ⊢ <;> omega
    refine pm_T.bricmp (b := true) (pc' := 14) rfl rfl h1 rfl rfl ?_
    refine pm_T.go (pc' := 15) rfl rfl rfl rfl ?_
    exact pm_T.ret rfl rfl rfl
  refine pm_T.go (pc' := 9) rfl rfl rfl rfl ?_
  refine pm_T.go (pc' := 10) rfl rfl rfl rfl ?_
  exact pm_T.ret rfl rfl rfl
theorem p1_image_n (a : Int32) (hn : pm_cnd .lt a 0 = true) : p1_Ok 176 305 [.int a] := ⟨_, _, _, p1_image_n_x a hn, p1_image_n_m a hn, rfl⟩
theorem p1_image_p_x (a : Int32) (hn : pm_cnd .ge a 3 = true) : pm_T none 299 176 0 (lv_args 0 [.ref 0, .int a]) [] pm_w1 (some (.int (Int32.ofInt (-1))), pm_w1) := by
  refine pm_T.go (pc' := 1) rfl rfl rfl rfl ?_
  have h1 : pm_cnd .lt a 0 = false := by simp [pm_cnd_ci, pm_ci] at hn ⊢ <;> omega
  refine pm_T.brif (b := false) (pc' := 4) rfl rfl h1 rfl rfl ?_
  refine pm_T.go (pc' := 5) rfl rfl rfl rfl ?_
  refine pm_T.go (pc' := 6) rfl rfl rfl rfl ?_
  refine pm_T.go (pc' := 9) rfl rfl rfl rfl ?_
  refine pm_T.go (pc' := 10) rfl rfl rfl rfl ?_
  have h2 : pm_cnd .lt a 3 = false := by simp [pm_cnd_ci, pm_ci] at hn h1 ⊢ <;> omega
  refine pm_T.bricmp (b := false) (pc' := 13) rfl rfl h2 rfl rfl ?_
  refine pm_T.go (pc' := 14) rfl rfl rfl rfl ?_
  exact pm_T.ret rfl rfl rfl
theorem p1_image_p_m (a : Int32) (hn : pm_cnd .ge a 3 = true) : pm_T none 299 305 0 (lv_args 0 [.ref 1131, .int a]) [] pm_w1 (some (.int (Int32.ofInt (-1))), pm_w1) := by
  refine pm_T.go (pc' := 1) rfl rfl rfl rfl ?_
  refine pm_T.go (pc' := 2) rfl rfl rfl rfl ?_
  refine pm_T.go (pc' := 3) rfl rfl rfl rfl ?_
  refine pm_T.call (d' := 298) (o1 := some (.int 0)) (w1 := pm_w1) rfl rfl rfl (by decide) rfl (by decide) rfl rfl ?_ ?_
  · skip
    refine pm_T.go (pc' := 1) rfl rfl rfl rfl ?_
    refine pm_T.go (pc' := 2) rfl rfl rfl rfl ?_
    have h1 : pm_cnd .lt a 0 = false := by simp [pm_cnd_ci, pm_ci] at hn ⊢ <;> omega
    refine pm_T.bricmp (b := false) (pc' := 5) rfl rfl h1 rfl rfl ?_
    refine pm_T.go (pc' := 6) rfl rfl rfl rfl ?_
    refine pm_T.go (pc' := 7) rfl rfl rfl rfl ?_
    have h2 : pm_cnd .gt a 2 = true := by simp [pm_cnd_ci, pm_ci] at hn h1 ⊢ <;> omega
    refine pm_T.bricmp (b := true) (pc' := 14) rfl rfl h2 rfl rfl ?_
    refine pm_T.go (pc' := 15) rfl rfl rfl rfl ?_
    exact pm_T.ret rfl rfl rfl
  refine pm_T.go (pc' := 9) rfl rfl rfl rfl ?_
  refine pm_T.go (pc' := 10) rfl rfl rfl rfl ?_
  exact pm_T.ret rfl rfl rfl
theorem p1_image_p (a : Int32) (hn : pm_cnd .ge a 3 = true) : p1_Ok 176 305 [.int a] := ⟨_, _, _, p1_image_p_x a hn, p1_image_p_m a hn, rfl⟩
theorem p1_image (a : Int32) : p1_Ok 176 305 [.int a] := by
  rcases pk_ix a (n := 3) (by decide) with h | h | ⟨j, hj, rfl⟩
  · exact p1_image_n a (decide_eq_true h)
  · exact p1_image_p a (decide_eq_true h)
  · rcases (show j = 0 ∨ j = 1 ∨ j = 2 by omega) with rfl | rfl | rfl
    · exact p1_image_0
    · exact p1_image_1
    · exact p1_image_2
theorem p1_back_0 : p1_Ok 177 306 [.int 0] := p1_ck_ok (by decide +kernel)
theorem p1_back_1 : p1_Ok 177 306 [.int 1] := p1_ck_ok (by decide +kernel)
theorem p1_back_2 : p1_Ok 177 306 [.int 2] := p1_ck_ok (by decide +kernel)
theorem p1_back_n_x (a : Int32) (hn : pm_cnd .lt a 0 = true) : pm_T none 299 177 0 (lv_args 0 [.ref 0, .int a]) [] pm_w1 (some (.int (Int32.ofInt (-1))), pm_w1) := by
  refine pm_T.go (pc' := 1) rfl rfl rfl rfl ?_
  have h1 : pm_cnd .lt a 0 = true := by simp [pm_cnd_ci, pm_ci] at hn ⊢ <;> omega
  refine pm_T.brif (b := true) (pc' := 24) rfl rfl h1 rfl rfl ?_
  refine pm_T.go (pc' := 25) rfl rfl rfl rfl ?_
  exact pm_T.ret rfl rfl rfl
theorem p1_back_n_m (a : Int32) (hn : pm_cnd .lt a 0 = true) : pm_T none 299 306 0 (lv_args 0 [.ref 1131, .int a]) [] pm_w1 (some (.int (Int32.ofInt (-1))), pm_w1) := by
  refine pm_T.go (pc' := 1) rfl rfl rfl rfl ?_
  refine pm_T.go (pc' := 2) rfl rfl rfl rfl ?_
  refine pm_T.go (pc' := 3) rfl rfl rfl rfl ?_
  refine pm_T.call (d' := 298) (o1 := some (.int 0)) (w1 := pm_w1) rfl rfl rfl (by decide) rfl (by decide) rfl rfl ?_ ?_
  · skip
    refine pm_T.go (pc' := 1) rfl rfl rfl rfl ?_
    refine pm_T.go (pc' := 2) rfl rfl rfl rfl ?_
    have h1 : pm_cnd .lt a 0 = true := by simp [pm_cnd_ci, pm_ci] at hn ⊢ <;> omega
    refine pm_T.bricmp (b := true) (pc' := 14) rfl rfl h1 rfl rfl ?_
    refine pm_T.go (pc' := 15) rfl rfl rfl rfl ?_
    exact pm_T.ret rfl rfl rfl
  refine pm_T.go (pc' := 18) rfl rfl rfl rfl ?_
  refine pm_T.go (pc' := 19) rfl rfl rfl rfl ?_
  exact pm_T.ret rfl rfl rfl
theorem p1_back_n (a : Int32) (hn : pm_cnd .lt a 0 = true) : p1_Ok 177 306 [.int a] := ⟨_, _, _, p1_back_n_x a hn, p1_back_n_m a hn, rfl⟩
theorem p1_back_p_x (a : Int32) (hn : pm_cnd .ge a 3 = true) : pm_T none 299 177 0 (lv_args 0 [.ref 0, .int a]) [] pm_w1 (some (.int (Int32.ofInt (-1))), pm_w1) := by
  refine pm_T.go (pc' := 1) rfl rfl rfl rfl ?_
  have h1 : pm_cnd .lt a 0 = false := by simp [pm_cnd_ci, pm_ci] at hn ⊢ <;> omega
  refine pm_T.brif (b := false) (pc' := 4) rfl rfl h1 rfl rfl ?_
  refine pm_T.go (pc' := 5) rfl rfl rfl rfl ?_
  refine pm_T.go (pc' := 6) rfl rfl rfl rfl ?_
  refine pm_T.go (pc' := 9) rfl rfl rfl rfl ?_
  refine pm_T.go (pc' := 10) rfl rfl rfl rfl ?_
  have h2 : pm_cnd .ge a 3 = true := by simp [pm_cnd_ci, pm_ci] at hn h1 ⊢ <;> omega
  refine pm_T.bricmp (b := true) (pc' := 24) rfl rfl h2 rfl rfl ?_
  refine pm_T.go (pc' := 25) rfl rfl rfl rfl ?_
  exact pm_T.ret rfl rfl rfl
theorem p1_back_p_m (a : Int32) (hn : pm_cnd .ge a 3 = true) : pm_T none 299 306 0 (lv_args 0 [.ref 1131, .int a]) [] pm_w1 (some (.int (Int32.ofInt (-1))), pm_w1) := by
  refine pm_T.go (pc' := 1) rfl rfl rfl rfl ?_
  refine pm_T.go (pc' := 2) rfl rfl rfl rfl ?_
  refine pm_T.go (pc' := 3) rfl rfl rfl rfl ?_
  refine pm_T.call (d' := 298) (o1 := some (.int 0)) (w1 := pm_w1) rfl rfl rfl (by decide) rfl (by decide) rfl rfl ?_ ?_
  · skip
    refine pm_T.go (pc' := 1) rfl rfl rfl rfl ?_
    refine pm_T.go (pc' := 2) rfl rfl rfl rfl ?_
    have h1 : pm_cnd .lt a 0 = false := by simp [pm_cnd_ci, pm_ci] at hn ⊢ <;> omega
    refine pm_T.bricmp (b := false) (pc' := 5) rfl rfl h1 rfl rfl ?_
    refine pm_T.go (pc' := 6) rfl rfl rfl rfl ?_
    refine pm_T.go (pc' := 7) rfl rfl rfl rfl ?_
    have h2 : pm_cnd .gt a 2 = true := by simp [pm_cnd_ci, pm_ci] at hn h1 ⊢ <;> omega
    refine pm_T.bricmp (b := true) (pc' := 14) rfl rfl h2 rfl rfl ?_
    refine pm_T.go (pc' := 15) rfl rfl rfl rfl ?_
    exact pm_T.ret rfl rfl rfl
  refine pm_T.go (pc' := 18) rfl rfl rfl rfl ?_
  refine pm_T.go (pc' := 19) rfl rfl rfl rfl ?_
  exact pm_T.ret rfl rfl rfl
theorem p1_back_p (a : Int32) (hn : pm_cnd .ge a 3 = true) : p1_Ok 177 306 [.int a] := ⟨_, _, _, p1_back_p_x a hn, p1_back_p_m a hn, rfl⟩
theorem p1_back (a : Int32) : p1_Ok 177 306 [.int a] := by
  rcases pk_ix a (n := 3) (by decide) with h | h | ⟨j, hj, rfl⟩
  · exact p1_back_n a (decide_eq_true h)
  · exact p1_back_p a (decide_eq_true h)
  · rcases (show j = 0 ∨ j = 1 ∨ j = 2 by omega) with rfl | rfl | rfl
    · exact p1_back_0
    · exact p1_back_1
    · exact p1_back_2
theorem p1_models_0 : p1_Ok 172 301 [.int 0] := p1_ck_ok (by decide +kernel)
theorem p1_models_1 : p1_Ok 172 301 [.int 1] := p1_ck_ok (by decide +kernel)
theorem p1_models_2 : p1_Ok 172 301 [.int 2] := p1_ck_ok (by decide +kernel)
theorem p1_models_3 : p1_Ok 172 301 [.int 3] := p1_ck_ok (by decide +kernel)
theorem p1_models_n_x (a : Int32) (hn : pm_cnd .lt a 0 = true) : pm_T none 299 172 0 (lv_args 0 [.ref 0, .int a]) [] pm_w1 (some (.int (Int32.ofInt (-1))), pm_w1) := by
  refine pm_T.go (pc' := 1) rfl rfl rfl rfl ?_
  refine pm_T.call (d' := 298) (o1 := some (.int 0)) (w1 := pm_w1) rfl rfl rfl (by decide) rfl (by decide) rfl rfl ?_ ?_
  · skip
    refine pm_T.go (pc' := 1) rfl rfl rfl rfl ?_
    refine pm_T.go (pc' := 2) rfl rfl rfl rfl ?_
    have h1 : pm_cnd .lt a 1 = true := by simp [pm_cnd_ci, pm_ci] at hn ⊢ <;> omega
    refine pm_T.bricmp (b := true) (pc' := 14) rfl rfl h1 rfl rfl ?_
    refine pm_T.go (pc' := 15) rfl rfl rfl rfl ?_
    exact pm_T.ret rfl rfl rfl
  refine pm_T.go (pc' := 22) rfl rfl rfl rfl ?_
  refine pm_T.go (pc' := 23) rfl rfl rfl rfl ?_
  exact pm_T.ret rfl rfl rfl
theorem p1_models_n_m (a : Int32) (hn : pm_cnd .lt a 0 = true) : pm_T none 299 301 0 (lv_args 0 [.ref 1131, .int a]) [] pm_w1 (some (.int (Int32.ofInt (-1))), pm_w1) := by
  refine pm_T.go (pc' := 1) rfl rfl rfl rfl ?_
  refine pm_T.go (pc' := 2) rfl rfl rfl rfl ?_
  refine pm_T.go (pc' := 3) rfl rfl rfl rfl ?_
  refine pm_T.call (d' := 298) (o1 := some (.int 0)) (w1 := pm_w1) rfl rfl rfl (by decide) rfl (by decide) rfl rfl ?_ ?_
  · skip
    refine pm_T.go (pc' := 1) rfl rfl rfl rfl ?_
    refine pm_T.go (pc' := 2) rfl rfl rfl rfl ?_
    have h1 : pm_cnd .lt a 1 = true := by simp [pm_cnd_ci, pm_ci] at hn ⊢ <;> omega
    refine pm_T.bricmp (b := true) (pc' := 14) rfl rfl h1 rfl rfl ?_
    refine pm_T.go (pc' := 15) rfl rfl rfl rfl ?_
    exact pm_T.ret rfl rfl rfl
  refine pm_T.go (pc' := 9) rfl rfl rfl rfl ?_
  refine pm_T.go (pc' := 10) rfl rfl rfl rfl ?_
  exact pm_T.ret rfl rfl rfl
theorem p1_models_n (a : Int32) (hn : pm_cnd .lt a 0 = true) : p1_Ok 172 301 [.int a] := ⟨_, _, _, p1_models_n_x a hn, p1_models_n_m a hn, rfl⟩
theorem p1_models_p_x (a : Int32) (hn : pm_cnd .ge a 4 = true) : pm_T none 299 172 0 (lv_args 0 [.ref 0, .int a]) [] pm_w1 (some (.int (Int32.ofInt (-1))), pm_w1) := by
  refine pm_T.go (pc' := 1) rfl rfl rfl rfl ?_
  refine pm_T.call (d' := 298) (o1 := some (.int 0)) (w1 := pm_w1) rfl rfl rfl (by decide) rfl (by decide) rfl rfl ?_ ?_
  · skip
    refine pm_T.go (pc' := 1) rfl rfl rfl rfl ?_
    refine pm_T.go (pc' := 2) rfl rfl rfl rfl ?_
    have h1 : pm_cnd .lt a 1 = false := by simp [pm_cnd_ci, pm_ci] at hn ⊢ <;> omega
    refine pm_T.bricmp (b := false) (pc' := 5) rfl rfl h1 rfl rfl ?_
    refine pm_T.go (pc' := 6) rfl rfl rfl rfl ?_
    refine pm_T.go (pc' := 7) rfl rfl rfl rfl ?_
    have h2 : pm_cnd .gt a 3 = true := by simp [pm_cnd_ci, pm_ci] at hn h1 ⊢ <;> omega
    refine pm_T.bricmp (b := true) (pc' := 14) rfl rfl h2 rfl rfl ?_
    refine pm_T.go (pc' := 15) rfl rfl rfl rfl ?_
    exact pm_T.ret rfl rfl rfl
  refine pm_T.go (pc' := 22) rfl rfl rfl rfl ?_
  refine pm_T.go (pc' := 23) rfl rfl rfl rfl ?_
  exact pm_T.ret rfl rfl rfl
theorem p1_models_p_m (a : Int32) (hn : pm_cnd .ge a 4 = true) : pm_T none 299 301 0 (lv_args 0 [.ref 1131, .int a]) [] pm_w1 (some (.int (Int32.ofInt (-1))), pm_w1) := by
  refine pm_T.go (pc' := 1) rfl rfl rfl rfl ?_
  refine pm_T.go (pc' := 2) rfl rfl rfl rfl ?_
  refine pm_T.go (pc' := 3) rfl rfl rfl rfl ?_
  refine pm_T.call (d' := 298) (o1 := some (.int 0)) (w1 := pm_w1) rfl rfl rfl (by decide) rfl (by decide) rfl rfl ?_ ?_
  · skip
    refine pm_T.go (pc' := 1) rfl rfl rfl rfl ?_
    refine pm_T.go (pc' := 2) rfl rfl rfl rfl ?_
    have h1 : pm_cnd .lt a 1 = false := by simp [pm_cnd_ci, pm_ci] at hn ⊢ <;> omega
    refine pm_T.bricmp (b := false) (pc' := 5) rfl rfl h1 rfl rfl ?_
    refine pm_T.go (pc' := 6) rfl rfl rfl rfl ?_
    refine pm_T.go (pc' := 7) rfl rfl rfl rfl ?_
    have h2 : pm_cnd .gt a 3 = true := by simp [pm_cnd_ci, pm_ci] at hn h1 ⊢ <;> omega
    refine pm_T.bricmp (b := true) (pc' := 14) rfl rfl h2 rfl rfl ?_
    refine pm_T.go (pc' := 15) rfl rfl rfl rfl ?_
    exact pm_T.ret rfl rfl rfl
  refine pm_T.go (pc' := 9) rfl rfl rfl rfl ?_
  refine pm_T.go (pc' := 10) rfl rfl rfl rfl ?_
  exact pm_T.ret rfl rfl rfl
theorem p1_models_p (a : Int32) (hn : pm_cnd .ge a 4 = true) : p1_Ok 172 301 [.int a] := ⟨_, _, _, p1_models_p_x a hn, p1_models_p_m a hn, rfl⟩
theorem p1_models (a : Int32) : p1_Ok 172 301 [.int a] := by
  rcases pk_ix a (n := 4) (by decide) with h | h | ⟨j, hj, rfl⟩
  · exact p1_models_n a (decide_eq_true h)
  · exact p1_models_p a (decide_eq_true h)
  · rcases (show j = 0 ∨ j = 1 ∨ j = 2 ∨ j = 3 by omega) with rfl | rfl | rfl | rfl
    · exact p1_models_0
    · exact p1_models_1
    · exact p1_models_2
    · exact p1_models_3
theorem p1_hold_0 : p1_Ok 173 302 [.int 0] := p1_ck_ok (by decide +kernel)
theorem p1_hold_1 : p1_Ok 173 302 [.int 1] := p1_ck_ok (by decide +kernel)
theorem p1_hold_2 : p1_Ok 173 302 [.int 2] := p1_ck_ok (by decide +kernel)
theorem p1_hold_3 : p1_Ok 173 302 [.int 3] := p1_ck_ok (by decide +kernel)
theorem p1_hold_n_x (a : Int32) (hn : pm_cnd .lt a 0 = true) : pm_T none 299 173 0 (lv_args 0 [.ref 0, .int a]) [] pm_w1 (some (.int (Int32.ofInt (-1))), pm_w1) := by
  refine pm_T.go (pc' := 1) rfl rfl rfl rfl ?_
  refine pm_T.call (d' := 298) (o1 := some (.int 0)) (w1 := pm_w1) rfl rfl rfl (by decide) rfl (by decide) rfl rfl ?_ ?_
  · skip
    refine pm_T.go (pc' := 1) rfl rfl rfl rfl ?_
    refine pm_T.go (pc' := 2) rfl rfl rfl rfl ?_
    have h1 : pm_cnd .lt a 1 = true := by simp [pm_cnd_ci, pm_ci] at hn ⊢ <;> omega
    refine pm_T.bricmp (b := true) (pc' := 14) rfl rfl h1 rfl rfl ?_
    refine pm_T.go (pc' := 15) rfl rfl rfl rfl ?_
    exact pm_T.ret rfl rfl rfl
  refine pm_T.go (pc' := 22) rfl rfl rfl rfl ?_
  refine pm_T.go (pc' := 23) rfl rfl rfl rfl ?_
  exact pm_T.ret rfl rfl rfl
theorem p1_hold_n_m (a : Int32) (hn : pm_cnd .lt a 0 = true) : pm_T none 299 302 0 (lv_args 0 [.ref 1131, .int a]) [] pm_w1 (some (.int (Int32.ofInt (-1))), pm_w1) := by
  refine pm_T.go (pc' := 1) rfl rfl rfl rfl ?_
  refine pm_T.go (pc' := 2) rfl rfl rfl rfl ?_
  refine pm_T.call (d' := 298) (o1 := some (.int (-1))) (w1 := pm_w1) rfl rfl rfl (by decide) rfl (by decide) rfl rfl ?_ ?_
  · skip
    refine pm_T.go (pc' := 1) rfl rfl rfl rfl ?_
    refine pm_T.go (pc' := 2) rfl rfl rfl rfl ?_
    refine pm_T.go (pc' := 3) rfl rfl rfl rfl ?_
    refine pm_T.call (d' := 297) (o1 := some (.int 0)) (w1 := pm_w1) rfl rfl rfl (by decide) rfl (by decide) rfl rfl ?_ ?_
    · skip
      refine pm_T.go (pc' := 1) rfl rfl rfl rfl ?_
      refine pm_T.go (pc' := 2) rfl rfl rfl rfl ?_
      have h1 : pm_cnd .lt a 1 = true := by simp [pm_cnd_ci, pm_ci] at hn ⊢ <;> omega
      refine pm_T.bricmp (b := true) (pc' := 14) rfl rfl h1 rfl rfl ?_
      refine pm_T.go (pc' := 15) rfl rfl rfl rfl ?_
      exact pm_T.ret rfl rfl rfl
    refine pm_T.go (pc' := 9) rfl rfl rfl rfl ?_
    refine pm_T.go (pc' := 10) rfl rfl rfl rfl ?_
    exact pm_T.ret rfl rfl rfl
  refine pm_T.go (pc' := 6) rfl rfl rfl rfl ?_
  refine pm_T.go (pc' := 7) rfl rfl rfl rfl ?_
  refine pm_T.go (pc' := 8) rfl rfl rfl rfl ?_
  refine pm_T.go (pc' := 9) rfl rfl rfl rfl ?_
  refine pm_T.go (pc' := 11) rfl rfl rfl rfl ?_
  refine pm_T.go (pc' := 13) rfl rfl rfl rfl ?_
  refine pm_T.go (pc' := 14) rfl rfl rfl rfl ?_
  refine pm_T.go (pc' := 45) rfl rfl rfl rfl ?_
  refine pm_T.go (pc' := 46) rfl rfl rfl rfl ?_
  refine pm_T.go (pc' := 49) rfl rfl rfl rfl ?_
  refine pm_T.go (pc' := 50) rfl rfl rfl rfl ?_
  refine pm_T.go (pc' := 54) rfl rfl rfl rfl ?_
  exact pm_T.ret rfl rfl rfl
theorem p1_hold_n (a : Int32) (hn : pm_cnd .lt a 0 = true) : p1_Ok 173 302 [.int a] := ⟨_, _, _, p1_hold_n_x a hn, p1_hold_n_m a hn, rfl⟩
theorem p1_hold_p_x (a : Int32) (hn : pm_cnd .ge a 4 = true) : pm_T none 299 173 0 (lv_args 0 [.ref 0, .int a]) [] pm_w1 (some (.int (Int32.ofInt (-1))), pm_w1) := by
  refine pm_T.go (pc' := 1) rfl rfl rfl rfl ?_
  refine pm_T.call (d' := 298) (o1 := some (.int 0)) (w1 := pm_w1) rfl rfl rfl (by decide) rfl (by decide) rfl rfl ?_ ?_
  · skip
    refine pm_T.go (pc' := 1) rfl rfl rfl rfl ?_
    refine pm_T.go (pc' := 2) rfl rfl rfl rfl ?_
    have h1 : pm_cnd .lt a 1 = false := by simp [pm_cnd_ci, pm_ci] at hn ⊢ <;> omega
    refine pm_T.bricmp (b := false) (pc' := 5) rfl rfl h1 rfl rfl ?_
    refine pm_T.go (pc' := 6) rfl rfl rfl rfl ?_
    refine pm_T.go (pc' := 7) rfl rfl rfl rfl ?_
    have h2 : pm_cnd .gt a 3 = true := by simp [pm_cnd_ci, pm_ci] at hn h1 ⊢ <;> omega
    refine pm_T.bricmp (b := true) (pc' := 14) rfl rfl h2 rfl rfl ?_
    refine pm_T.go (pc' := 15) rfl rfl rfl rfl ?_
    exact pm_T.ret rfl rfl rfl
  refine pm_T.go (pc' := 22) rfl rfl rfl rfl ?_
  refine pm_T.go (pc' := 23) rfl rfl rfl rfl ?_
  exact pm_T.ret rfl rfl rfl
theorem p1_hold_p_m (a : Int32) (hn : pm_cnd .ge a 4 = true) : pm_T none 299 302 0 (lv_args 0 [.ref 1131, .int a]) [] pm_w1 (some (.int (Int32.ofInt (-1))), pm_w1) := by
  refine pm_T.go (pc' := 1) rfl rfl rfl rfl ?_
  refine pm_T.go (pc' := 2) rfl rfl rfl rfl ?_
  refine pm_T.call (d' := 298) (o1 := some (.int (-1))) (w1 := pm_w1) rfl rfl rfl (by decide) rfl (by decide) rfl rfl ?_ ?_
  · skip
    refine pm_T.go (pc' := 1) rfl rfl rfl rfl ?_
    refine pm_T.go (pc' := 2) rfl rfl rfl rfl ?_
    refine pm_T.go (pc' := 3) rfl rfl rfl rfl ?_
    refine pm_T.call (d' := 297) (o1 := some (.int 0)) (w1 := pm_w1) rfl rfl rfl (by decide) rfl (by decide) rfl rfl ?_ ?_
    · skip
      refine pm_T.go (pc' := 1) rfl rfl rfl rfl ?_
      refine pm_T.go (pc' := 2) rfl rfl rfl rfl ?_
      have h1 : pm_cnd .lt a 1 = false := by simp [pm_cnd_ci, pm_ci] at hn ⊢ <;> omega
      refine pm_T.bricmp (b := false) (pc' := 5) rfl rfl h1 rfl rfl ?_
      refine pm_T.go (pc' := 6) rfl rfl rfl rfl ?_
      refine pm_T.go (pc' := 7) rfl rfl rfl rfl ?_
      have h2 : pm_cnd .gt a 3 = true := by simp [pm_cnd_ci, pm_ci] at hn h1 ⊢ <;> omega
      refine pm_T.bricmp (b := true) (pc' := 14) rfl rfl h2 rfl rfl ?_
      refine pm_T.go (pc' := 15) rfl rfl rfl rfl ?_
      exact pm_T.ret rfl rfl rfl
    refine pm_T.go (pc' := 9) rfl rfl rfl rfl ?_
    refine pm_T.go (pc' := 10) rfl rfl rfl rfl ?_
    exact pm_T.ret rfl rfl rfl
  refine pm_T.go (pc' := 6) rfl rfl rfl rfl ?_
  refine pm_T.go (pc' := 7) rfl rfl rfl rfl ?_
  refine pm_T.go (pc' := 8) rfl rfl rfl rfl ?_
  refine pm_T.go (pc' := 9) rfl rfl rfl rfl ?_
  refine pm_T.go (pc' := 11) rfl rfl rfl rfl ?_
  refine pm_T.go (pc' := 13) rfl rfl rfl rfl ?_
  refine pm_T.go (pc' := 14) rfl rfl rfl rfl ?_
  refine pm_T.go (pc' := 45) rfl rfl rfl rfl ?_
  refine pm_T.go (pc' := 46) rfl rfl rfl rfl ?_
  refine pm_T.go (pc' := 49) rfl rfl rfl rfl ?_
  refine pm_T.go (pc' := 50) rfl rfl rfl rfl ?_
  refine pm_T.go (pc' := 54) rfl rfl rfl rfl ?_
  exact pm_T.ret rfl rfl rfl
theorem p1_hold_p (a : Int32) (hn : pm_cnd .ge a 4 = true) : p1_Ok 173 302 [.int a] := ⟨_, _, _, p1_hold_p_x a hn, p1_hold_p_m a hn, rfl⟩
theorem p1_hold (a : Int32) : p1_Ok 173 302 [.int a] := by
  rcases pk_ix a (n := 4) (by decide) with h | h | ⟨j, hj, rfl⟩
  · exact p1_hold_n a (decide_eq_true h)
  · exact p1_hold_p a (decide_eq_true h)
  · rcases (show j = 0 ∨ j = 1 ∨ j = 2 ∨ j = 3 by omega) with rfl | rfl | rfl | rfl
    · exact p1_hold_0
    · exact p1_hold_1
    · exact p1_hold_2
    · exact p1_hold_3
theorem p1_step_x (a b : Int32)  : pm_T none 299 155 0 (lv_args 0 [.ref 0, .int a, .int b]) [] pm_w1 (some (.int (Int32.ofInt (-1))), pm_w1) := by
  refine pm_T.go (pc' := 1) rfl rfl rfl rfl ?_
  refine pm_T.go (pc' := 4) rfl rfl rfl rfl ?_
  refine pm_T.go (pc' := 5) rfl rfl rfl rfl ?_
  refine pm_T.call (d' := 298) (o1 := some (.int 0)) (w1 := pm_w1) rfl rfl rfl (by decide) rfl (by decide) rfl rfl ?_ ?_
  · skip
    refine pm_T.go (pc' := 1) rfl rfl rfl rfl ?_
    rcases Bool.eq_false_or_eq_true (pm_cnd .lt a 0) with h1 | h1
    · skip
      refine pm_T.brif (b := true) (pc' := 16) rfl rfl h1 rfl rfl ?_
      refine pm_T.go (pc' := 17) rfl rfl rfl rfl ?_
      exact pm_T.ret rfl rfl rfl
    · skip
      refine pm_T.brif (b := false) (pc' := 4) rfl rfl h1 rfl rfl ?_
      refine pm_T.go (pc' := 5) rfl rfl rfl rfl ?_
      refine pm_T.go (pc' := 6) rfl rfl rfl rfl ?_
      refine pm_T.go (pc' := 9) rfl rfl rfl rfl ?_
      have h2 : pm_cnd .ge a 0 = true := by simp [pm_cnd_ci, pm_ci] at h1 ⊢ <;> omega
      refine pm_T.bricmp (b := true) (pc' := 16) rfl rfl h2 rfl rfl ?_
      refine pm_T.go (pc' := 17) rfl rfl rfl rfl ?_
      exact pm_T.ret rfl rfl rfl
  refine pm_T.go (pc' := 11) rfl rfl rfl rfl ?_
  refine pm_T.go (pc' := 12) rfl rfl rfl rfl ?_
  exact pm_T.ret rfl rfl rfl
theorem p1_step_m (a b : Int32)  : pm_T none 299 263 0 (lv_args 0 [.ref 1131, .int a, .int b]) [] pm_w1 (some (.int (Int32.ofInt (-1))), pm_w1) := by
  refine pm_T.go (pc' := 1) rfl rfl rfl rfl ?_
  refine pm_T.go (pc' := 2) rfl rfl rfl rfl ?_
  refine pm_T.call (d' := 298) (o1 := some (.int 0)) (w1 := pm_w1) rfl rfl rfl (by decide) rfl (by decide) rfl rfl ?_ ?_
  · skip
    refine pm_T.go (pc' := 1) rfl rfl rfl rfl ?_
    refine pm_T.go (pc' := 2) rfl rfl rfl rfl ?_
    refine pm_T.go (pc' := 3) rfl rfl rfl rfl ?_
    refine pm_T.go (pc' := 6) rfl rfl rfl rfl ?_
    refine pm_T.go (pc' := 7) rfl rfl rfl rfl ?_
    refine pm_T.go (pc' := 8) rfl rfl rfl rfl ?_
    refine pm_T.call (d' := 297) (o1 := some (.int 0)) (w1 := pm_w1) rfl rfl rfl (by decide) rfl (by decide) rfl rfl ?_ ?_
    · skip
      refine pm_T.go (pc' := 1) rfl rfl rfl rfl ?_
      refine pm_T.go (pc' := 2) rfl rfl rfl rfl ?_
      rcases Bool.eq_false_or_eq_true (pm_cnd .lt a 0) with h1 | h1
      · skip
        refine pm_T.bricmp (b := true) (pc' := 14) rfl rfl h1 rfl rfl ?_
        refine pm_T.go (pc' := 15) rfl rfl rfl rfl ?_
        exact pm_T.ret rfl rfl rfl
      · skip
        refine pm_T.bricmp (b := false) (pc' := 5) rfl rfl h1 rfl rfl ?_
        refine pm_T.go (pc' := 6) rfl rfl rfl rfl ?_
        refine pm_T.go (pc' := 7) rfl rfl rfl rfl ?_
        have h2 : pm_cnd .gt a (-1) = true := by simp [pm_cnd_ci, pm_ci] at h1 ⊢ <;> omega
        refine pm_T.bricmp (b := true) (pc' := 14) rfl rfl h2 rfl rfl ?_
        refine pm_T.go (pc' := 15) rfl rfl rfl rfl ?_
        exact pm_T.ret rfl rfl rfl
    exact pm_T.ret rfl rfl rfl
  refine pm_T.go (pc' := 8) rfl rfl rfl rfl ?_
  refine pm_T.go (pc' := 9) rfl rfl rfl rfl ?_
  exact pm_T.ret rfl rfl rfl
theorem p1_step (a b : Int32)  : p1_Ok 155 263 [.int a, .int b] := ⟨_, _, _, p1_step_x a b, p1_step_m a b, rfl⟩
theorem p1_line_x (a b : Int32)  : pm_T none 299 156 0 (lv_args 0 [.ref 0, .int a, .int b]) [] pm_w1 (some (.int (Int32.ofInt (-1))), pm_w1) := by
  refine pm_T.go (pc' := 1) rfl rfl rfl rfl ?_
  refine pm_T.go (pc' := 4) rfl rfl rfl rfl ?_
  refine pm_T.go (pc' := 5) rfl rfl rfl rfl ?_
  refine pm_T.call (d' := 298) (o1 := some (.int 0)) (w1 := pm_w1) rfl rfl rfl (by decide) rfl (by decide) rfl rfl ?_ ?_
  · skip
    refine pm_T.go (pc' := 1) rfl rfl rfl rfl ?_
    rcases Bool.eq_false_or_eq_true (pm_cnd .lt a 0) with h1 | h1
    · skip
      refine pm_T.brif (b := true) (pc' := 16) rfl rfl h1 rfl rfl ?_
      refine pm_T.go (pc' := 17) rfl rfl rfl rfl ?_
      exact pm_T.ret rfl rfl rfl
    · skip
      refine pm_T.brif (b := false) (pc' := 4) rfl rfl h1 rfl rfl ?_
      refine pm_T.go (pc' := 5) rfl rfl rfl rfl ?_
      refine pm_T.go (pc' := 6) rfl rfl rfl rfl ?_
      refine pm_T.go (pc' := 9) rfl rfl rfl rfl ?_
      have h2 : pm_cnd .ge a 0 = true := by simp [pm_cnd_ci, pm_ci] at h1 ⊢ <;> omega
      refine pm_T.bricmp (b := true) (pc' := 16) rfl rfl h2 rfl rfl ?_
      refine pm_T.go (pc' := 17) rfl rfl rfl rfl ?_
      exact pm_T.ret rfl rfl rfl
  refine pm_T.go (pc' := 29) rfl rfl rfl rfl ?_
  refine pm_T.go (pc' := 30) rfl rfl rfl rfl ?_
  exact pm_T.ret rfl rfl rfl
theorem p1_line_m (a b : Int32)  : pm_T none 299 265 0 (lv_args 0 [.ref 1131, .int a, .int b]) [] pm_w1 (some (.int (Int32.ofInt (-1))), pm_w1) := by
  refine pm_T.go (pc' := 1) rfl rfl rfl rfl ?_
  refine pm_T.go (pc' := 2) rfl rfl rfl rfl ?_
  refine pm_T.call (d' := 298) (o1 := some (.int 0)) (w1 := pm_w1) rfl rfl rfl (by decide) rfl (by decide) rfl rfl ?_ ?_
  · skip
    refine pm_T.go (pc' := 1) rfl rfl rfl rfl ?_
    refine pm_T.go (pc' := 2) rfl rfl rfl rfl ?_
    refine pm_T.go (pc' := 3) rfl rfl rfl rfl ?_
    refine pm_T.go (pc' := 6) rfl rfl rfl rfl ?_
    refine pm_T.go (pc' := 7) rfl rfl rfl rfl ?_
    refine pm_T.go (pc' := 8) rfl rfl rfl rfl ?_
    refine pm_T.call (d' := 297) (o1 := some (.int 0)) (w1 := pm_w1) rfl rfl rfl (by decide) rfl (by decide) rfl rfl ?_ ?_
    · skip
      refine pm_T.go (pc' := 1) rfl rfl rfl rfl ?_
      refine pm_T.go (pc' := 2) rfl rfl rfl rfl ?_
      rcases Bool.eq_false_or_eq_true (pm_cnd .lt a 0) with h1 | h1
      · skip
        refine pm_T.bricmp (b := true) (pc' := 14) rfl rfl h1 rfl rfl ?_
        refine pm_T.go (pc' := 15) rfl rfl rfl rfl ?_
        exact pm_T.ret rfl rfl rfl
      · skip
        refine pm_T.bricmp (b := false) (pc' := 5) rfl rfl h1 rfl rfl ?_
        refine pm_T.go (pc' := 6) rfl rfl rfl rfl ?_
        refine pm_T.go (pc' := 7) rfl rfl rfl rfl ?_
        have h2 : pm_cnd .gt a (-1) = true := by simp [pm_cnd_ci, pm_ci] at h1 ⊢ <;> omega
        refine pm_T.bricmp (b := true) (pc' := 14) rfl rfl h2 rfl rfl ?_
        refine pm_T.go (pc' := 15) rfl rfl rfl rfl ?_
        exact pm_T.ret rfl rfl rfl
    exact pm_T.ret rfl rfl rfl
  refine pm_T.go (pc' := 20) rfl rfl rfl rfl ?_
  refine pm_T.go (pc' := 21) rfl rfl rfl rfl ?_
  exact pm_T.ret rfl rfl rfl
theorem p1_line (a b : Int32)  : p1_Ok 156 265 [.int a, .int b] := ⟨_, _, _, p1_line_x a b, p1_line_m a b, rfl⟩
theorem p1_assumed_x (a b c : Int32)  : pm_T none 299 157 0 (lv_args 0 [.ref 0, .int a, .int b, .int c]) [] pm_w1 (some (.int (Int32.ofInt (-1))), pm_w1) := by
  refine pm_T.go (pc' := 1) rfl rfl rfl rfl ?_
  refine pm_T.go (pc' := 4) rfl rfl rfl rfl ?_
  refine pm_T.go (pc' := 5) rfl rfl rfl rfl ?_
  refine pm_T.call (d' := 298) (o1 := some (.int 0)) (w1 := pm_w1) rfl rfl rfl (by decide) rfl (by decide) rfl rfl ?_ ?_
  · skip
    refine pm_T.go (pc' := 1) rfl rfl rfl rfl ?_
    rcases Bool.eq_false_or_eq_true (pm_cnd .lt a 0) with h1 | h1
    · skip
      refine pm_T.brif (b := true) (pc' := 16) rfl rfl h1 rfl rfl ?_
      refine pm_T.go (pc' := 17) rfl rfl rfl rfl ?_
      exact pm_T.ret rfl rfl rfl
    · skip
      refine pm_T.brif (b := false) (pc' := 4) rfl rfl h1 rfl rfl ?_
      refine pm_T.go (pc' := 5) rfl rfl rfl rfl ?_
      refine pm_T.go (pc' := 6) rfl rfl rfl rfl ?_
      refine pm_T.go (pc' := 9) rfl rfl rfl rfl ?_
      have h2 : pm_cnd .ge a 0 = true := by simp [pm_cnd_ci, pm_ci] at h1 ⊢ <;> omega
      refine pm_T.bricmp (b := true) (pc' := 16) rfl rfl h2 rfl rfl ?_
      refine pm_T.go (pc' := 17) rfl rfl rfl rfl ?_
      exact pm_T.ret rfl rfl rfl
  refine pm_T.go (pc' := 11) rfl rfl rfl rfl ?_
  refine pm_T.go (pc' := 12) rfl rfl rfl rfl ?_
  exact pm_T.ret rfl rfl rfl
theorem p1_assumed_m (a b c : Int32)  : pm_T none 299 266 0 (lv_args 0 [.ref 1131, .int a, .int b, .int c]) [] pm_w1 (some (.int (Int32.ofInt (-1))), pm_w1) := by
  refine pm_T.go (pc' := 1) rfl rfl rfl rfl ?_
  refine pm_T.go (pc' := 2) rfl rfl rfl rfl ?_
  refine pm_T.call (d' := 298) (o1 := some (.int 0)) (w1 := pm_w1) rfl rfl rfl (by decide) rfl (by decide) rfl rfl ?_ ?_
  · skip
    refine pm_T.go (pc' := 1) rfl rfl rfl rfl ?_
    refine pm_T.go (pc' := 2) rfl rfl rfl rfl ?_
    refine pm_T.go (pc' := 3) rfl rfl rfl rfl ?_
    refine pm_T.go (pc' := 6) rfl rfl rfl rfl ?_
    refine pm_T.go (pc' := 7) rfl rfl rfl rfl ?_
    refine pm_T.go (pc' := 8) rfl rfl rfl rfl ?_
    refine pm_T.call (d' := 297) (o1 := some (.int 0)) (w1 := pm_w1) rfl rfl rfl (by decide) rfl (by decide) rfl rfl ?_ ?_
    · skip
      refine pm_T.go (pc' := 1) rfl rfl rfl rfl ?_
      refine pm_T.go (pc' := 2) rfl rfl rfl rfl ?_
      rcases Bool.eq_false_or_eq_true (pm_cnd .lt a 0) with h1 | h1
      · skip
        refine pm_T.bricmp (b := true) (pc' := 14) rfl rfl h1 rfl rfl ?_
        refine pm_T.go (pc' := 15) rfl rfl rfl rfl ?_
        exact pm_T.ret rfl rfl rfl
      · skip
        refine pm_T.bricmp (b := false) (pc' := 5) rfl rfl h1 rfl rfl ?_
        refine pm_T.go (pc' := 6) rfl rfl rfl rfl ?_
        refine pm_T.go (pc' := 7) rfl rfl rfl rfl ?_
        have h2 : pm_cnd .gt a (-1) = true := by simp [pm_cnd_ci, pm_ci] at h1 ⊢ <;> omega
        refine pm_T.bricmp (b := true) (pc' := 14) rfl rfl h2 rfl rfl ?_
        refine pm_T.go (pc' := 15) rfl rfl rfl rfl ?_
        exact pm_T.ret rfl rfl rfl
    exact pm_T.ret rfl rfl rfl
  refine pm_T.go (pc' := 37) rfl rfl rfl rfl ?_
  refine pm_T.go (pc' := 38) rfl rfl rfl rfl ?_
  exact pm_T.ret rfl rfl rfl
theorem p1_assumed (a b c : Int32)  : p1_Ok 157 266 [.int a, .int b, .int c] := ⟨_, _, _, p1_assumed_x a b c, p1_assumed_m a b c, rfl⟩
theorem p1_theorem_x (a b : Int32)  : pm_T none 299 159 0 (lv_args 0 [.ref 0, .int a, .int b]) [] pm_w1 (some (.int (Int32.ofInt (-1))), pm_w1) := by
  refine pm_T.go (pc' := 1) rfl rfl rfl rfl ?_
  refine pm_T.go (pc' := 4) rfl rfl rfl rfl ?_
  refine pm_T.go (pc' := 5) rfl rfl rfl rfl ?_
  refine pm_T.call (d' := 298) (o1 := some (.int 0)) (w1 := pm_w1) rfl rfl rfl (by decide) rfl (by decide) rfl rfl ?_ ?_
  · skip
    refine pm_T.go (pc' := 1) rfl rfl rfl rfl ?_
    rcases Bool.eq_false_or_eq_true (pm_cnd .lt a 0) with h1 | h1
    · skip
      refine pm_T.brif (b := true) (pc' := 16) rfl rfl h1 rfl rfl ?_
      refine pm_T.go (pc' := 17) rfl rfl rfl rfl ?_
      exact pm_T.ret rfl rfl rfl
    · skip
      refine pm_T.brif (b := false) (pc' := 4) rfl rfl h1 rfl rfl ?_
      refine pm_T.go (pc' := 5) rfl rfl rfl rfl ?_
      refine pm_T.go (pc' := 6) rfl rfl rfl rfl ?_
      refine pm_T.go (pc' := 9) rfl rfl rfl rfl ?_
      have h2 : pm_cnd .ge a 0 = true := by simp [pm_cnd_ci, pm_ci] at h1 ⊢ <;> omega
      refine pm_T.bricmp (b := true) (pc' := 16) rfl rfl h2 rfl rfl ?_
      refine pm_T.go (pc' := 17) rfl rfl rfl rfl ?_
      exact pm_T.ret rfl rfl rfl
  refine pm_T.go (pc' := 26) rfl rfl rfl rfl ?_
  refine pm_T.go (pc' := 27) rfl rfl rfl rfl ?_
  exact pm_T.ret rfl rfl rfl
theorem p1_theorem_m (a b : Int32)  : pm_T none 299 269 0 (lv_args 0 [.ref 1131, .int a, .int b]) [] pm_w1 (some (.int (Int32.ofInt (-1))), pm_w1) := by
  refine pm_T.go (pc' := 1) rfl rfl rfl rfl ?_
  refine pm_T.go (pc' := 2) rfl rfl rfl rfl ?_
  refine pm_T.go (pc' := 3) rfl rfl rfl rfl ?_
  refine pm_T.go (pc' := 6) rfl rfl rfl rfl ?_
  refine pm_T.go (pc' := 7) rfl rfl rfl rfl ?_
  refine pm_T.go (pc' := 8) rfl rfl rfl rfl ?_
  refine pm_T.call (d' := 298) (o1 := some (.int 0)) (w1 := pm_w1) rfl rfl rfl (by decide) rfl (by decide) rfl rfl ?_ ?_
  · skip
    refine pm_T.go (pc' := 1) rfl rfl rfl rfl ?_
    refine pm_T.go (pc' := 2) rfl rfl rfl rfl ?_
    rcases Bool.eq_false_or_eq_true (pm_cnd .lt a 0) with h1 | h1
    · skip
      refine pm_T.bricmp (b := true) (pc' := 14) rfl rfl h1 rfl rfl ?_
      refine pm_T.go (pc' := 15) rfl rfl rfl rfl ?_
      exact pm_T.ret rfl rfl rfl
    · skip
      refine pm_T.bricmp (b := false) (pc' := 5) rfl rfl h1 rfl rfl ?_
      refine pm_T.go (pc' := 6) rfl rfl rfl rfl ?_
      refine pm_T.go (pc' := 7) rfl rfl rfl rfl ?_
      have h2 : pm_cnd .gt a (-1) = true := by simp [pm_cnd_ci, pm_ci] at h1 ⊢ <;> omega
      refine pm_T.bricmp (b := true) (pc' := 14) rfl rfl h2 rfl rfl ?_
      refine pm_T.go (pc' := 15) rfl rfl rfl rfl ?_
      exact pm_T.ret rfl rfl rfl
  refine pm_T.go (pc' := 30) rfl rfl rfl rfl ?_
  refine pm_T.go (pc' := 31) rfl rfl rfl rfl ?_
  exact pm_T.ret rfl rfl rfl
theorem p1_theorem (a b : Int32)  : p1_Ok 159 269 [.int a, .int b] := ⟨_, _, _, p1_theorem_x a b, p1_theorem_m a b, rfl⟩
theorem p1_leans_x (a b : Int32)  : pm_T none 299 160 0 (lv_args 0 [.ref 0, .int a, .int b]) [] pm_w1 (some (.int (Int32.ofInt (-1))), pm_w1) := by
  refine pm_T.go (pc' := 1) rfl rfl rfl rfl ?_
  refine pm_T.go (pc' := 4) rfl rfl rfl rfl ?_
  refine pm_T.go (pc' := 5) rfl rfl rfl rfl ?_
  refine pm_T.call (d' := 298) (o1 := some (.int 0)) (w1 := pm_w1) rfl rfl rfl (by decide) rfl (by decide) rfl rfl ?_ ?_
  · skip
    refine pm_T.go (pc' := 1) rfl rfl rfl rfl ?_
    rcases Bool.eq_false_or_eq_true (pm_cnd .lt a 0) with h1 | h1
    · skip
      refine pm_T.brif (b := true) (pc' := 16) rfl rfl h1 rfl rfl ?_
      refine pm_T.go (pc' := 17) rfl rfl rfl rfl ?_
      exact pm_T.ret rfl rfl rfl
    · skip
      refine pm_T.brif (b := false) (pc' := 4) rfl rfl h1 rfl rfl ?_
      refine pm_T.go (pc' := 5) rfl rfl rfl rfl ?_
      refine pm_T.go (pc' := 6) rfl rfl rfl rfl ?_
      refine pm_T.go (pc' := 9) rfl rfl rfl rfl ?_
      have h2 : pm_cnd .ge a 0 = true := by simp [pm_cnd_ci, pm_ci] at h1 ⊢ <;> omega
      refine pm_T.bricmp (b := true) (pc' := 16) rfl rfl h2 rfl rfl ?_
      refine pm_T.go (pc' := 17) rfl rfl rfl rfl ?_
      exact pm_T.ret rfl rfl rfl
  refine pm_T.go (pc' := 11) rfl rfl rfl rfl ?_
  refine pm_T.go (pc' := 12) rfl rfl rfl rfl ?_
  exact pm_T.ret rfl rfl rfl
theorem p1_leans_m (a b : Int32)  : pm_T none 299 271 0 (lv_args 0 [.ref 1131, .int a, .int b]) [] pm_w1 (some (.int (Int32.ofInt (-1))), pm_w1) := by
  refine pm_T.go (pc' := 1) rfl rfl rfl rfl ?_
  refine pm_T.go (pc' := 2) rfl rfl rfl rfl ?_
  refine pm_T.go (pc' := 3) rfl rfl rfl rfl ?_
  refine pm_T.go (pc' := 6) rfl rfl rfl rfl ?_
  refine pm_T.go (pc' := 7) rfl rfl rfl rfl ?_
  refine pm_T.go (pc' := 8) rfl rfl rfl rfl ?_
  refine pm_T.call (d' := 298) (o1 := some (.int 0)) (w1 := pm_w1) rfl rfl rfl (by decide) rfl (by decide) rfl rfl ?_ ?_
  · skip
    refine pm_T.go (pc' := 1) rfl rfl rfl rfl ?_
    refine pm_T.go (pc' := 2) rfl rfl rfl rfl ?_
    rcases Bool.eq_false_or_eq_true (pm_cnd .lt a 0) with h1 | h1
    · skip
      refine pm_T.bricmp (b := true) (pc' := 14) rfl rfl h1 rfl rfl ?_
      refine pm_T.go (pc' := 15) rfl rfl rfl rfl ?_
      exact pm_T.ret rfl rfl rfl
    · skip
      refine pm_T.bricmp (b := false) (pc' := 5) rfl rfl h1 rfl rfl ?_
      refine pm_T.go (pc' := 6) rfl rfl rfl rfl ?_
      refine pm_T.go (pc' := 7) rfl rfl rfl rfl ?_
      have h2 : pm_cnd .gt a (-1) = true := by simp [pm_cnd_ci, pm_ci] at h1 ⊢ <;> omega
      refine pm_T.bricmp (b := true) (pc' := 14) rfl rfl h2 rfl rfl ?_
      refine pm_T.go (pc' := 15) rfl rfl rfl rfl ?_
      exact pm_T.ret rfl rfl rfl
  refine pm_T.go (pc' := 14) rfl rfl rfl rfl ?_
  refine pm_T.go (pc' := 15) rfl rfl rfl rfl ?_
  refine pm_T.go (pc' := 59) rfl rfl rfl rfl ?_
  exact pm_T.ret rfl rfl rfl
theorem p1_leans (a b : Int32)  : p1_Ok 160 271 [.int a, .int b] := ⟨_, _, _, p1_leans_x a b, p1_leans_m a b, rfl⟩
theorem p1_piece_x (a : Int32)  : pm_T none 299 163 0 (lv_args 0 [.ref 0, .int a]) [] pm_w1 (some (.int (Int32.ofInt (-1))), pm_w1) := by
  refine pm_T.go (pc' := 1) rfl rfl rfl rfl ?_
  refine pm_T.go (pc' := 4) rfl rfl rfl rfl ?_
  refine pm_T.go (pc' := 5) rfl rfl rfl rfl ?_
  refine pm_T.call (d' := 298) (o1 := some (.int (-1))) (w1 := pm_w1) rfl rfl rfl (by decide) rfl (by decide) rfl rfl ?_ ?_
  · skip
    refine pm_T.go (pc' := 1) rfl rfl rfl rfl ?_
    rcases Bool.eq_false_or_eq_true (pm_cnd .lt a 0) with h1 | h1
    · skip
      refine pm_T.brif (b := true) (pc' := 30) rfl rfl h1 rfl rfl ?_
      refine pm_T.go (pc' := 31) rfl rfl rfl rfl ?_
      exact pm_T.ret rfl rfl rfl
    · skip
      refine pm_T.brif (b := false) (pc' := 4) rfl rfl h1 rfl rfl ?_
      refine pm_T.go (pc' := 5) rfl rfl rfl rfl ?_
      refine pm_T.go (pc' := 6) rfl rfl rfl rfl ?_
      refine pm_T.go (pc' := 9) rfl rfl rfl rfl ?_
      have h2 : pm_cnd .ge a 0 = true := by simp [pm_cnd_ci, pm_ci] at h1 ⊢ <;> omega
      refine pm_T.bricmp (b := true) (pc' := 30) rfl rfl h2 rfl rfl ?_
      refine pm_T.go (pc' := 31) rfl rfl rfl rfl ?_
      exact pm_T.ret rfl rfl rfl
  exact pm_T.ret rfl rfl rfl
theorem p1_piece_m (a : Int32)  : pm_T none 299 275 0 (lv_args 0 [.ref 1131, .int a]) [] pm_w1 (some (.int (Int32.ofInt (-1))), pm_w1) := by
  refine pm_T.go (pc' := 1) rfl rfl rfl rfl ?_
  refine pm_T.go (pc' := 4) rfl rfl rfl rfl ?_
  refine pm_T.go (pc' := 5) rfl rfl rfl rfl ?_
  refine pm_T.call (d' := 298) (o1 := some (.int (-1))) (w1 := pm_w1) rfl rfl rfl (by decide) rfl (by decide) rfl rfl ?_ ?_
  · skip
    refine pm_T.go (pc' := 1) rfl rfl rfl rfl ?_
    refine pm_T.go (pc' := 2) rfl rfl rfl rfl ?_
    refine pm_T.go (pc' := 3) rfl rfl rfl rfl ?_
    refine pm_T.go (pc' := 4) rfl rfl rfl rfl ?_
    refine pm_T.call (d' := 297) (o1 := some (.int 0)) (w1 := pm_w1) rfl rfl rfl (by decide) rfl (by decide) rfl rfl ?_ ?_
    · skip
      refine pm_T.go (pc' := 1) rfl rfl rfl rfl ?_
      refine pm_T.go (pc' := 4) rfl rfl rfl rfl ?_
      refine pm_T.go (pc' := 5) rfl rfl rfl rfl ?_
      refine pm_T.go (pc' := 6) rfl rfl rfl rfl ?_
      exact pm_T.ret rfl rfl rfl
    refine pm_T.go (pc' := 8) rfl rfl rfl rfl ?_
    refine pm_T.go (pc' := 9) rfl rfl rfl rfl ?_
    refine pm_T.call (d' := 297) (o1 := some (.int 0)) (w1 := pm_w1) rfl rfl rfl (by decide) rfl (by decide) rfl rfl ?_ ?_
    · skip
      refine pm_T.go (pc' := 1) rfl rfl rfl rfl ?_
      refine pm_T.go (pc' := 2) rfl rfl rfl rfl ?_
      rcases Bool.eq_false_or_eq_true (pm_cnd .lt a 0) with h1 | h1
      · skip
        refine pm_T.bricmp (b := true) (pc' := 14) rfl rfl h1 rfl rfl ?_
        refine pm_T.go (pc' := 15) rfl rfl rfl rfl ?_
        exact pm_T.ret rfl rfl rfl
      · skip
        refine pm_T.bricmp (b := false) (pc' := 5) rfl rfl h1 rfl rfl ?_
        refine pm_T.go (pc' := 6) rfl rfl rfl rfl ?_
        refine pm_T.go (pc' := 7) rfl rfl rfl rfl ?_
        have h2 : pm_cnd .gt a (-1) = true := by simp [pm_cnd_ci, pm_ci] at h1 ⊢ <;> omega
        refine pm_T.bricmp (b := true) (pc' := 14) rfl rfl h2 rfl rfl ?_
        refine pm_T.go (pc' := 15) rfl rfl rfl rfl ?_
        exact pm_T.ret rfl rfl rfl
    refine pm_T.go (pc' := 24) rfl rfl rfl rfl ?_
    refine pm_T.go (pc' := 25) rfl rfl rfl rfl ?_
    exact pm_T.ret rfl rfl rfl
  exact pm_T.ret rfl rfl rfl
theorem p1_piece (a : Int32)  : p1_Ok 163 275 [.int a] := ⟨_, _, _, p1_piece_x a, p1_piece_m a, rfl⟩
theorem p1_needs_x (a : Int32)  : pm_T none 299 165 0 (lv_args 0 [.ref 0, .int a]) [] pm_w1 (some (.long (-1)), pm_w1) := by
  refine pm_T.go (pc' := 1) rfl rfl rfl rfl ?_
  refine pm_T.go (pc' := 4) rfl rfl rfl rfl ?_
  refine pm_T.go (pc' := 5) rfl rfl rfl rfl ?_
  refine pm_T.call (d' := 298) (o1 := some (.int 0)) (w1 := pm_w1) rfl rfl rfl (by decide) rfl (by decide) rfl rfl ?_ ?_
  · skip
    refine pm_T.go (pc' := 1) rfl rfl rfl rfl ?_
    rcases Bool.eq_false_or_eq_true (pm_cnd .lt a 0) with h1 | h1
    · skip
      refine pm_T.brif (b := true) (pc' := 16) rfl rfl h1 rfl rfl ?_
      refine pm_T.go (pc' := 17) rfl rfl rfl rfl ?_
      exact pm_T.ret rfl rfl rfl
    · skip
      refine pm_T.brif (b := false) (pc' := 4) rfl rfl h1 rfl rfl ?_
      refine pm_T.go (pc' := 5) rfl rfl rfl rfl ?_
      refine pm_T.go (pc' := 6) rfl rfl rfl rfl ?_
      refine pm_T.go (pc' := 9) rfl rfl rfl rfl ?_
      have h2 : pm_cnd .ge a 0 = true := by simp [pm_cnd_ci, pm_ci] at h1 ⊢ <;> omega
      refine pm_T.bricmp (b := true) (pc' := 16) rfl rfl h2 rfl rfl ?_
      refine pm_T.go (pc' := 17) rfl rfl rfl rfl ?_
      exact pm_T.ret rfl rfl rfl
  refine pm_T.go (pc' := 25) rfl rfl rfl rfl ?_
  refine pm_T.go (pc' := 28) rfl rfl rfl rfl ?_
  exact pm_T.ret rfl rfl rfl
theorem p1_needs_m (a : Int32)  : pm_T none 299 267 0 (lv_args 0 [.ref 1131, .int a]) [] pm_w1 (some (.long (-1)), pm_w1) := by
  refine pm_T.go (pc' := 1) rfl rfl rfl rfl ?_
  refine pm_T.go (pc' := 2) rfl rfl rfl rfl ?_
  refine pm_T.call (d' := 298) (o1 := some (.int 0)) (w1 := pm_w1) rfl rfl rfl (by decide) rfl (by decide) rfl rfl ?_ ?_
  · skip
    refine pm_T.go (pc' := 1) rfl rfl rfl rfl ?_
    refine pm_T.go (pc' := 2) rfl rfl rfl rfl ?_
    refine pm_T.go (pc' := 3) rfl rfl rfl rfl ?_
    refine pm_T.go (pc' := 6) rfl rfl rfl rfl ?_
    refine pm_T.go (pc' := 7) rfl rfl rfl rfl ?_
    refine pm_T.go (pc' := 8) rfl rfl rfl rfl ?_
    refine pm_T.call (d' := 297) (o1 := some (.int 0)) (w1 := pm_w1) rfl rfl rfl (by decide) rfl (by decide) rfl rfl ?_ ?_
    · skip
      refine pm_T.go (pc' := 1) rfl rfl rfl rfl ?_
      refine pm_T.go (pc' := 2) rfl rfl rfl rfl ?_
      rcases Bool.eq_false_or_eq_true (pm_cnd .lt a 0) with h1 | h1
      · skip
        refine pm_T.bricmp (b := true) (pc' := 14) rfl rfl h1 rfl rfl ?_
        refine pm_T.go (pc' := 15) rfl rfl rfl rfl ?_
        exact pm_T.ret rfl rfl rfl
      · skip
        refine pm_T.bricmp (b := false) (pc' := 5) rfl rfl h1 rfl rfl ?_
        refine pm_T.go (pc' := 6) rfl rfl rfl rfl ?_
        refine pm_T.go (pc' := 7) rfl rfl rfl rfl ?_
        have h2 : pm_cnd .gt a (-1) = true := by simp [pm_cnd_ci, pm_ci] at h1 ⊢ <;> omega
        refine pm_T.bricmp (b := true) (pc' := 14) rfl rfl h2 rfl rfl ?_
        refine pm_T.go (pc' := 15) rfl rfl rfl rfl ?_
        exact pm_T.ret rfl rfl rfl
    exact pm_T.ret rfl rfl rfl
  refine pm_T.go (pc' := 17) rfl rfl rfl rfl ?_
  refine pm_T.go (pc' := 20) rfl rfl rfl rfl ?_
  exact pm_T.ret rfl rfl rfl
theorem p1_needs (a : Int32)  : p1_OkJ 165 267 [.int a] := ⟨_, _, _, p1_needs_x a, p1_needs_m a, rfl⟩
theorem p1_normal_x (a : Int32)  : pm_T none 299 170 0 (lv_args 0 [.ref 0, .int a]) [] pm_w1 (some (.int (Int32.ofInt (-1))), pm_w1) := by
  refine pm_T.go (pc' := 1) rfl rfl rfl rfl ?_
  refine pm_T.go (pc' := 4) rfl rfl rfl rfl ?_
  refine pm_T.go (pc' := 7) rfl rfl rfl rfl ?_
  refine pm_T.go (pc' := 8) rfl rfl rfl rfl ?_
  refine pm_T.call (d' := 298) (o1 := some (.int (-1))) (w1 := pm_w1) rfl rfl rfl (by decide) rfl (by decide) rfl rfl ?_ ?_
  · skip
    refine pm_T.go (pc' := 1) rfl rfl rfl rfl ?_
    rcases Bool.eq_false_or_eq_true (pm_cnd .lt a 0) with h1 | h1
    · skip
      refine pm_T.brif (b := true) (pc' := 30) rfl rfl h1 rfl rfl ?_
      refine pm_T.go (pc' := 31) rfl rfl rfl rfl ?_
      exact pm_T.ret rfl rfl rfl
    · skip
      refine pm_T.brif (b := false) (pc' := 4) rfl rfl h1 rfl rfl ?_
      refine pm_T.go (pc' := 5) rfl rfl rfl rfl ?_
      refine pm_T.go (pc' := 6) rfl rfl rfl rfl ?_
      refine pm_T.go (pc' := 9) rfl rfl rfl rfl ?_
      have h2 : pm_cnd .ge a 0 = true := by simp [pm_cnd_ci, pm_ci] at h1 ⊢ <;> omega
      refine pm_T.bricmp (b := true) (pc' := 30) rfl rfl h2 rfl rfl ?_
      refine pm_T.go (pc' := 31) rfl rfl rfl rfl ?_
      exact pm_T.ret rfl rfl rfl
  exact pm_T.ret rfl rfl rfl
theorem p1_normal_m (a : Int32)  : pm_T none 299 289 0 (lv_args 0 [.ref 1131, .int a]) [] pm_w1 (some (.int (Int32.ofInt (-1))), pm_w1) := by
  refine pm_T.go (pc' := 1) rfl rfl rfl rfl ?_
  refine pm_T.go (pc' := 4) rfl rfl rfl rfl ?_
  refine pm_T.go (pc' := 5) rfl rfl rfl rfl ?_
  refine pm_T.call (d' := 298) (o1 := some (.int (-1))) (w1 := pm_w1) rfl rfl rfl (by decide) rfl (by decide) rfl rfl ?_ ?_
  · skip
    refine pm_T.go (pc' := 1) rfl rfl rfl rfl ?_
    refine pm_T.go (pc' := 2) rfl rfl rfl rfl ?_
    refine pm_T.go (pc' := 3) rfl rfl rfl rfl ?_
    refine pm_T.go (pc' := 4) rfl rfl rfl rfl ?_
    refine pm_T.call (d' := 297) (o1 := some (.int 0)) (w1 := pm_w1) rfl rfl rfl (by decide) rfl (by decide) rfl rfl ?_ ?_
    · skip
      refine pm_T.go (pc' := 1) rfl rfl rfl rfl ?_
      refine pm_T.go (pc' := 4) rfl rfl rfl rfl ?_
      refine pm_T.go (pc' := 5) rfl rfl rfl rfl ?_
      refine pm_T.go (pc' := 6) rfl rfl rfl rfl ?_
      exact pm_T.ret rfl rfl rfl
    refine pm_T.go (pc' := 8) rfl rfl rfl rfl ?_
    refine pm_T.go (pc' := 9) rfl rfl rfl rfl ?_
    refine pm_T.call (d' := 297) (o1 := some (.int 0)) (w1 := pm_w1) rfl rfl rfl (by decide) rfl (by decide) rfl rfl ?_ ?_
    · skip
      refine pm_T.go (pc' := 1) rfl rfl rfl rfl ?_
      refine pm_T.go (pc' := 2) rfl rfl rfl rfl ?_
      rcases Bool.eq_false_or_eq_true (pm_cnd .lt a 0) with h1 | h1
      · skip
        refine pm_T.bricmp (b := true) (pc' := 14) rfl rfl h1 rfl rfl ?_
        refine pm_T.go (pc' := 15) rfl rfl rfl rfl ?_
        exact pm_T.ret rfl rfl rfl
      · skip
        refine pm_T.bricmp (b := false) (pc' := 5) rfl rfl h1 rfl rfl ?_
        refine pm_T.go (pc' := 6) rfl rfl rfl rfl ?_
        refine pm_T.go (pc' := 7) rfl rfl rfl rfl ?_
        have h2 : pm_cnd .gt a (-1) = true := by simp [pm_cnd_ci, pm_ci] at h1 ⊢ <;> omega
        refine pm_T.bricmp (b := true) (pc' := 14) rfl rfl h2 rfl rfl ?_
        refine pm_T.go (pc' := 15) rfl rfl rfl rfl ?_
        exact pm_T.ret rfl rfl rfl
    refine pm_T.go (pc' := 24) rfl rfl rfl rfl ?_
    refine pm_T.go (pc' := 25) rfl rfl rfl rfl ?_
    exact pm_T.ret rfl rfl rfl
  exact pm_T.ret rfl rfl rfl
theorem p1_normal (a : Int32)  : p1_Ok 170 289 [.int a] := ⟨_, _, _, p1_normal_x a, p1_normal_m a, rfl⟩
theorem p1_counter_0 : p1_Ok 175 304 [.int 0] := p1_ck_ok (by decide +kernel)
theorem p1_counter_1 : p1_Ok 175 304 [.int 1] := p1_ck_ok (by decide +kernel)
theorem p1_counter_2 : p1_Ok 175 304 [.int 2] := p1_ck_ok (by decide +kernel)
theorem p1_counter_3 : p1_Ok 175 304 [.int 3] := p1_ck_ok (by decide +kernel)
theorem p1_counter_n_x (a : Int32) (hn : pm_cnd .lt a 0 = true) : pm_T none 299 175 0 (lv_args 0 [.ref 0, .int a]) [] pm_w1 (some (.int (Int32.ofInt (-1))), pm_w1) := by
  refine pm_T.go (pc' := 1) rfl rfl rfl rfl ?_
  refine pm_T.call (d' := 298) (o1 := some (.int 0)) (w1 := pm_w1) rfl rfl rfl (by decide) rfl (by decide) rfl rfl ?_ ?_
  · skip
    refine pm_T.go (pc' := 1) rfl rfl rfl rfl ?_
    refine pm_T.go (pc' := 2) rfl rfl rfl rfl ?_
    have h1 : pm_cnd .lt a 1 = true := by simp [pm_cnd_ci, pm_ci] at hn ⊢ <;> omega
    refine pm_T.bricmp (b := true) (pc' := 14) rfl rfl h1 rfl rfl ?_
    refine pm_T.go (pc' := 15) rfl rfl rfl rfl ?_
    exact pm_T.ret rfl rfl rfl
  refine pm_T.go (pc' := 17) rfl rfl rfl rfl ?_
  refine pm_T.go (pc' := 18) rfl rfl rfl rfl ?_
  exact pm_T.ret rfl rfl rfl
theorem p1_counter_n_m (a : Int32) (hn : pm_cnd .lt a 0 = true) : pm_T none 299 304 0 (lv_args 0 [.ref 1131, .int a]) [] pm_w1 (some (.int (Int32.ofInt (-1))), pm_w1) := by
  refine pm_T.go (pc' := 1) rfl rfl rfl rfl ?_
  refine pm_T.go (pc' := 2) rfl rfl rfl rfl ?_
  refine pm_T.go (pc' := 3) rfl rfl rfl rfl ?_
  refine pm_T.call (d' := 298) (o1 := some (.int 0)) (w1 := pm_w1) rfl rfl rfl (by decide) rfl (by decide) rfl rfl ?_ ?_
  · skip
    refine pm_T.go (pc' := 1) rfl rfl rfl rfl ?_
    refine pm_T.go (pc' := 2) rfl rfl rfl rfl ?_
    have h1 : pm_cnd .lt a 1 = true := by simp [pm_cnd_ci, pm_ci] at hn ⊢ <;> omega
    refine pm_T.bricmp (b := true) (pc' := 14) rfl rfl h1 rfl rfl ?_
    refine pm_T.go (pc' := 15) rfl rfl rfl rfl ?_
    exact pm_T.ret rfl rfl rfl
  refine pm_T.go (pc' := 19) rfl rfl rfl rfl ?_
  refine pm_T.go (pc' := 20) rfl rfl rfl rfl ?_
  exact pm_T.ret rfl rfl rfl
theorem p1_counter_n (a : Int32) (hn : pm_cnd .lt a 0 = true) : p1_Ok 175 304 [.int a] := ⟨_, _, _, p1_counter_n_x a hn, p1_counter_n_m a hn, rfl⟩
theorem p1_counter_p_x (a : Int32) (hn : pm_cnd .ge a 4 = true) : pm_T none 299 175 0 (lv_args 0 [.ref 0, .int a]) [] pm_w1 (some (.int (Int32.ofInt (-1))), pm_w1) := by
  refine pm_T.go (pc' := 1) rfl rfl rfl rfl ?_
  refine pm_T.call (d' := 298) (o1 := some (.int 0)) (w1 := pm_w1) rfl rfl rfl (by decide) rfl (by decide) rfl rfl ?_ ?_
  · skip
    refine pm_T.go (pc' := 1) rfl rfl rfl rfl ?_
    refine pm_T.go (pc' := 2) rfl rfl rfl rfl ?_
    have h1 : pm_cnd .lt a 1 = false := by simp [pm_cnd_ci, pm_ci] at hn ⊢ <;> omega
    refine pm_T.bricmp (b := false) (pc' := 5) rfl rfl h1 rfl rfl ?_
    refine pm_T.go (pc' := 6) rfl rfl rfl rfl ?_
    refine pm_T.go (pc' := 7) rfl rfl rfl rfl ?_
    have h2 : pm_cnd .gt a 3 = true := by simp [pm_cnd_ci, pm_ci] at hn h1 ⊢ <;> omega
    refine pm_T.bricmp (b := true) (pc' := 14) rfl rfl h2 rfl rfl ?_
    refine pm_T.go (pc' := 15) rfl rfl rfl rfl ?_
    exact pm_T.ret rfl rfl rfl
  refine pm_T.go (pc' := 17) rfl rfl rfl rfl ?_
  refine pm_T.go (pc' := 18) rfl rfl rfl rfl ?_
  exact pm_T.ret rfl rfl rfl
theorem p1_counter_p_m (a : Int32) (hn : pm_cnd .ge a 4 = true) : pm_T none 299 304 0 (lv_args 0 [.ref 1131, .int a]) [] pm_w1 (some (.int (Int32.ofInt (-1))), pm_w1) := by
  refine pm_T.go (pc' := 1) rfl rfl rfl rfl ?_
  refine pm_T.go (pc' := 2) rfl rfl rfl rfl ?_
  refine pm_T.go (pc' := 3) rfl rfl rfl rfl ?_
  refine pm_T.call (d' := 298) (o1 := some (.int 0)) (w1 := pm_w1) rfl rfl rfl (by decide) rfl (by decide) rfl rfl ?_ ?_
  · skip
    refine pm_T.go (pc' := 1) rfl rfl rfl rfl ?_
    refine pm_T.go (pc' := 2) rfl rfl rfl rfl ?_
    have h1 : pm_cnd .lt a 1 = false := by simp [pm_cnd_ci, pm_ci] at hn ⊢ <;> omega
    refine pm_T.bricmp (b := false) (pc' := 5) rfl rfl h1 rfl rfl ?_
    refine pm_T.go (pc' := 6) rfl rfl rfl rfl ?_
    refine pm_T.go (pc' := 7) rfl rfl rfl rfl ?_
    have h2 : pm_cnd .gt a 3 = true := by simp [pm_cnd_ci, pm_ci] at hn h1 ⊢ <;> omega
    refine pm_T.bricmp (b := true) (pc' := 14) rfl rfl h2 rfl rfl ?_
    refine pm_T.go (pc' := 15) rfl rfl rfl rfl ?_
    exact pm_T.ret rfl rfl rfl
  refine pm_T.go (pc' := 19) rfl rfl rfl rfl ?_
  refine pm_T.go (pc' := 20) rfl rfl rfl rfl ?_
  exact pm_T.ret rfl rfl rfl
theorem p1_counter_p (a : Int32) (hn : pm_cnd .ge a 4 = true) : p1_Ok 175 304 [.int a] := ⟨_, _, _, p1_counter_p_x a hn, p1_counter_p_m a hn, rfl⟩
theorem p1_counter (a : Int32) : p1_Ok 175 304 [.int a] := by
  rcases pk_ix a (n := 4) (by decide) with h | h | ⟨j, hj, rfl⟩
  · exact p1_counter_n a (decide_eq_true h)
  · exact p1_counter_p a (decide_eq_true h)
  · rcases (show j = 0 ∨ j = 1 ∨ j = 2 ∨ j = 3 by omega) with rfl | rfl | rfl | rfl
    · exact p1_counter_0
    · exact p1_counter_1
    · exact p1_counter_2
    · exact p1_counter_3
theorem p1_holds_0_x (b : Int32)  : pm_T none 299 174 0 (lv_args 0 [.ref 0, .int 0, .int b]) [] pm_w1 (some (.int (Int32.ofInt (-1))), pm_w1) := by
  refine pm_T.go (pc' := 1) rfl rfl rfl rfl ?_
  refine pm_T.call (d' := 298) (o1 := some (.int 0)) (w1 := pm_w1) rfl rfl rfl (by decide) rfl (by decide) rfl rfl ?_ ?_
  · skip
    refine pm_T.go (pc' := 1) rfl rfl rfl rfl ?_
    refine pm_T.go (pc' := 2) rfl rfl rfl rfl ?_
    refine pm_T.go (pc' := 14) rfl rfl rfl rfl ?_
    refine pm_T.go (pc' := 15) rfl rfl rfl rfl ?_
    exact pm_T.ret rfl rfl rfl
  refine pm_T.go (pc' := 21) rfl rfl rfl rfl ?_
  refine pm_T.go (pc' := 22) rfl rfl rfl rfl ?_
  exact pm_T.ret rfl rfl rfl
theorem p1_holds_0_m (b : Int32)  : pm_T none 299 303 0 (lv_args 0 [.ref 1131, .int 0, .int b]) [] pm_w1 (some (.int (Int32.ofInt (-1))), pm_w1) := by
  refine pm_T.go (pc' := 1) rfl rfl rfl rfl ?_
  refine pm_T.go (pc' := 2) rfl rfl rfl rfl ?_
  refine pm_T.go (pc' := 3) rfl rfl rfl rfl ?_
  refine pm_T.call (d' := 298) (o1 := some (.int 0)) (w1 := pm_w1) rfl rfl rfl (by decide) rfl (by decide) rfl rfl ?_ ?_
  · skip
    refine pm_T.go (pc' := 1) rfl rfl rfl rfl ?_
    refine pm_T.go (pc' := 2) rfl rfl rfl rfl ?_
    refine pm_T.go (pc' := 14) rfl rfl rfl rfl ?_
    refine pm_T.go (pc' := 15) rfl rfl rfl rfl ?_
    exact pm_T.ret rfl rfl rfl
  refine pm_T.go (pc' := 19) rfl rfl rfl rfl ?_
  refine pm_T.go (pc' := 20) rfl rfl rfl rfl ?_
  exact pm_T.ret rfl rfl rfl
theorem p1_holds_0 (b : Int32)  : p1_Ok 174 303 [.int 0, .int b] := ⟨_, _, _, p1_holds_0_x b, p1_holds_0_m b, rfl⟩
theorem p1_holds_1_x (b : Int32)  : pm_T none 299 174 0 (lv_args 0 [.ref 0, .int 1, .int b]) [] pm_w1 (some (.int (Int32.ofInt (-1))), pm_w1) := by
  refine pm_T.go (pc' := 1) rfl rfl rfl rfl ?_
  refine pm_T.call (d' := 298) (o1 := some (.int 1)) (w1 := pm_w1) rfl rfl rfl (by decide) rfl (by decide) rfl rfl ?_ ?_
  · skip
    refine pm_T.go (pc' := 1) rfl rfl rfl rfl ?_
    refine pm_T.go (pc' := 2) rfl rfl rfl rfl ?_
    refine pm_T.go (pc' := 5) rfl rfl rfl rfl ?_
    refine pm_T.go (pc' := 6) rfl rfl rfl rfl ?_
    refine pm_T.go (pc' := 7) rfl rfl rfl rfl ?_
    refine pm_T.go (pc' := 10) rfl rfl rfl rfl ?_
    refine pm_T.go (pc' := 11) rfl rfl rfl rfl ?_
    refine pm_T.go (pc' := 15) rfl rfl rfl rfl ?_
    exact pm_T.ret rfl rfl rfl
  refine pm_T.go (pc' := 7) rfl rfl rfl rfl ?_
  refine pm_T.go (pc' := 8) rfl rfl rfl rfl ?_
  rcases Bool.eq_false_or_eq_true (pm_cnd .lt b 0) with h1 | h1
  · skip
    refine pm_T.brif (b := true) (pc' := 21) rfl rfl h1 rfl rfl ?_
    refine pm_T.go (pc' := 22) rfl rfl rfl rfl ?_
    exact pm_T.ret rfl rfl rfl
  · skip
    refine pm_T.brif (b := false) (pc' := 11) rfl rfl h1 rfl rfl ?_
    refine pm_T.go (pc' := 12) rfl rfl rfl rfl ?_
    refine pm_T.go (pc' := 15) rfl rfl rfl rfl ?_
    refine pm_T.go (pc' := 18) rfl rfl rfl rfl ?_
    refine pm_T.go (pc' := 21) rfl rfl rfl rfl ?_
    refine pm_T.go (pc' := 22) rfl rfl rfl rfl ?_
    exact pm_T.ret rfl rfl rfl
theorem p1_holds_1_m (b : Int32)  : pm_T none 299 303 0 (lv_args 0 [.ref 1131, .int 1, .int b]) [] pm_w1 (some (.int (Int32.ofInt (-1))), pm_w1) := by
  refine pm_T.go (pc' := 1) rfl rfl rfl rfl ?_
  refine pm_T.go (pc' := 2) rfl rfl rfl rfl ?_
  refine pm_T.go (pc' := 3) rfl rfl rfl rfl ?_
  refine pm_T.call (d' := 298) (o1 := some (.int 1)) (w1 := pm_w1) rfl rfl rfl (by decide) rfl (by decide) rfl rfl ?_ ?_
  · skip
    refine pm_T.go (pc' := 1) rfl rfl rfl rfl ?_
    refine pm_T.go (pc' := 2) rfl rfl rfl rfl ?_
    refine pm_T.go (pc' := 5) rfl rfl rfl rfl ?_
    refine pm_T.go (pc' := 6) rfl rfl rfl rfl ?_
    refine pm_T.go (pc' := 7) rfl rfl rfl rfl ?_
    refine pm_T.go (pc' := 10) rfl rfl rfl rfl ?_
    refine pm_T.go (pc' := 11) rfl rfl rfl rfl ?_
    refine pm_T.go (pc' := 15) rfl rfl rfl rfl ?_
    exact pm_T.ret rfl rfl rfl
  refine pm_T.go (pc' := 9) rfl rfl rfl rfl ?_
  refine pm_T.go (pc' := 10) rfl rfl rfl rfl ?_
  refine pm_T.go (pc' := 13) rfl rfl rfl rfl ?_
  refine pm_T.call (d' := 298) (o1 := some (.int 0)) (w1 := pm_w1) rfl rfl rfl (by decide) rfl (by decide) rfl rfl ?_ ?_
  · skip
    refine pm_T.go (pc' := 1) rfl rfl rfl rfl ?_
    refine pm_T.go (pc' := 4) rfl rfl rfl rfl ?_
    refine pm_T.go (pc' := 5) rfl rfl rfl rfl ?_
    refine pm_T.go (pc' := 6) rfl rfl rfl rfl ?_
    exact pm_T.ret rfl rfl rfl
  refine pm_T.go (pc' := 19) rfl rfl rfl rfl ?_
  refine pm_T.go (pc' := 20) rfl rfl rfl rfl ?_
  exact pm_T.ret rfl rfl rfl
theorem p1_holds_1 (b : Int32)  : p1_Ok 174 303 [.int 1, .int b] := ⟨_, _, _, p1_holds_1_x b, p1_holds_1_m b, rfl⟩
theorem p1_holds_2_x (b : Int32)  : pm_T none 299 174 0 (lv_args 0 [.ref 0, .int 2, .int b]) [] pm_w1 (some (.int (Int32.ofInt (-1))), pm_w1) := by
  refine pm_T.go (pc' := 1) rfl rfl rfl rfl ?_
  refine pm_T.call (d' := 298) (o1 := some (.int 1)) (w1 := pm_w1) rfl rfl rfl (by decide) rfl (by decide) rfl rfl ?_ ?_
  · skip
    refine pm_T.go (pc' := 1) rfl rfl rfl rfl ?_
    refine pm_T.go (pc' := 2) rfl rfl rfl rfl ?_
    refine pm_T.go (pc' := 5) rfl rfl rfl rfl ?_
    refine pm_T.go (pc' := 6) rfl rfl rfl rfl ?_
    refine pm_T.go (pc' := 7) rfl rfl rfl rfl ?_
    refine pm_T.go (pc' := 10) rfl rfl rfl rfl ?_
    refine pm_T.go (pc' := 11) rfl rfl rfl rfl ?_
    refine pm_T.go (pc' := 15) rfl rfl rfl rfl ?_
    exact pm_T.ret rfl rfl rfl
  refine pm_T.go (pc' := 7) rfl rfl rfl rfl ?_
  refine pm_T.go (pc' := 8) rfl rfl rfl rfl ?_
  rcases Bool.eq_false_or_eq_true (pm_cnd .lt b 0) with h1 | h1
  · skip
    refine pm_T.brif (b := true) (pc' := 21) rfl rfl h1 rfl rfl ?_
    refine pm_T.go (pc' := 22) rfl rfl rfl rfl ?_
    exact pm_T.ret rfl rfl rfl
  · skip
    refine pm_T.brif (b := false) (pc' := 11) rfl rfl h1 rfl rfl ?_
    refine pm_T.go (pc' := 12) rfl rfl rfl rfl ?_
    refine pm_T.go (pc' := 15) rfl rfl rfl rfl ?_
    refine pm_T.go (pc' := 18) rfl rfl rfl rfl ?_
    refine pm_T.go (pc' := 21) rfl rfl rfl rfl ?_
    refine pm_T.go (pc' := 22) rfl rfl rfl rfl ?_
    exact pm_T.ret rfl rfl rfl
theorem p1_holds_2_m (b : Int32)  : pm_T none 299 303 0 (lv_args 0 [.ref 1131, .int 2, .int b]) [] pm_w1 (some (.int (Int32.ofInt (-1))), pm_w1) := by
  refine pm_T.go (pc' := 1) rfl rfl rfl rfl ?_
  refine pm_T.go (pc' := 2) rfl rfl rfl rfl ?_
  refine pm_T.go (pc' := 3) rfl rfl rfl rfl ?_
  refine pm_T.call (d' := 298) (o1 := some (.int 1)) (w1 := pm_w1) rfl rfl rfl (by decide) rfl (by decide) rfl rfl ?_ ?_
  · skip
    refine pm_T.go (pc' := 1) rfl rfl rfl rfl ?_
    refine pm_T.go (pc' := 2) rfl rfl rfl rfl ?_
    refine pm_T.go (pc' := 5) rfl rfl rfl rfl ?_
    refine pm_T.go (pc' := 6) rfl rfl rfl rfl ?_
    refine pm_T.go (pc' := 7) rfl rfl rfl rfl ?_
    refine pm_T.go (pc' := 10) rfl rfl rfl rfl ?_
    refine pm_T.go (pc' := 11) rfl rfl rfl rfl ?_
    refine pm_T.go (pc' := 15) rfl rfl rfl rfl ?_
    exact pm_T.ret rfl rfl rfl
  refine pm_T.go (pc' := 9) rfl rfl rfl rfl ?_
  refine pm_T.go (pc' := 10) rfl rfl rfl rfl ?_
  refine pm_T.go (pc' := 13) rfl rfl rfl rfl ?_
  refine pm_T.call (d' := 298) (o1 := some (.int 0)) (w1 := pm_w1) rfl rfl rfl (by decide) rfl (by decide) rfl rfl ?_ ?_
  · skip
    refine pm_T.go (pc' := 1) rfl rfl rfl rfl ?_
    refine pm_T.go (pc' := 4) rfl rfl rfl rfl ?_
    refine pm_T.go (pc' := 5) rfl rfl rfl rfl ?_
    refine pm_T.go (pc' := 6) rfl rfl rfl rfl ?_
    exact pm_T.ret rfl rfl rfl
  refine pm_T.go (pc' := 19) rfl rfl rfl rfl ?_
  refine pm_T.go (pc' := 20) rfl rfl rfl rfl ?_
  exact pm_T.ret rfl rfl rfl
theorem p1_holds_2 (b : Int32)  : p1_Ok 174 303 [.int 2, .int b] := ⟨_, _, _, p1_holds_2_x b, p1_holds_2_m b, rfl⟩
theorem p1_holds_3_x (b : Int32)  : pm_T none 299 174 0 (lv_args 0 [.ref 0, .int 3, .int b]) [] pm_w1 (some (.int (Int32.ofInt (-1))), pm_w1) := by
  refine pm_T.go (pc' := 1) rfl rfl rfl rfl ?_
  refine pm_T.call (d' := 298) (o1 := some (.int 1)) (w1 := pm_w1) rfl rfl rfl (by decide) rfl (by decide) rfl rfl ?_ ?_
  · skip
    refine pm_T.go (pc' := 1) rfl rfl rfl rfl ?_
    refine pm_T.go (pc' := 2) rfl rfl rfl rfl ?_
    refine pm_T.go (pc' := 5) rfl rfl rfl rfl ?_
    refine pm_T.go (pc' := 6) rfl rfl rfl rfl ?_
    refine pm_T.go (pc' := 7) rfl rfl rfl rfl ?_
    refine pm_T.go (pc' := 10) rfl rfl rfl rfl ?_
    refine pm_T.go (pc' := 11) rfl rfl rfl rfl ?_
    refine pm_T.go (pc' := 15) rfl rfl rfl rfl ?_
    exact pm_T.ret rfl rfl rfl
  refine pm_T.go (pc' := 7) rfl rfl rfl rfl ?_
  refine pm_T.go (pc' := 8) rfl rfl rfl rfl ?_
  rcases Bool.eq_false_or_eq_true (pm_cnd .lt b 0) with h1 | h1
  · skip
    refine pm_T.brif (b := true) (pc' := 21) rfl rfl h1 rfl rfl ?_
    refine pm_T.go (pc' := 22) rfl rfl rfl rfl ?_
    exact pm_T.ret rfl rfl rfl
  · skip
    refine pm_T.brif (b := false) (pc' := 11) rfl rfl h1 rfl rfl ?_
    refine pm_T.go (pc' := 12) rfl rfl rfl rfl ?_
    refine pm_T.go (pc' := 15) rfl rfl rfl rfl ?_
    refine pm_T.go (pc' := 18) rfl rfl rfl rfl ?_
    refine pm_T.go (pc' := 21) rfl rfl rfl rfl ?_
    refine pm_T.go (pc' := 22) rfl rfl rfl rfl ?_
    exact pm_T.ret rfl rfl rfl
theorem p1_holds_3_m (b : Int32)  : pm_T none 299 303 0 (lv_args 0 [.ref 1131, .int 3, .int b]) [] pm_w1 (some (.int (Int32.ofInt (-1))), pm_w1) := by
  refine pm_T.go (pc' := 1) rfl rfl rfl rfl ?_
  refine pm_T.go (pc' := 2) rfl rfl rfl rfl ?_
  refine pm_T.go (pc' := 3) rfl rfl rfl rfl ?_
  refine pm_T.call (d' := 298) (o1 := some (.int 1)) (w1 := pm_w1) rfl rfl rfl (by decide) rfl (by decide) rfl rfl ?_ ?_
  · skip
    refine pm_T.go (pc' := 1) rfl rfl rfl rfl ?_
    refine pm_T.go (pc' := 2) rfl rfl rfl rfl ?_
    refine pm_T.go (pc' := 5) rfl rfl rfl rfl ?_
    refine pm_T.go (pc' := 6) rfl rfl rfl rfl ?_
    refine pm_T.go (pc' := 7) rfl rfl rfl rfl ?_
    refine pm_T.go (pc' := 10) rfl rfl rfl rfl ?_
    refine pm_T.go (pc' := 11) rfl rfl rfl rfl ?_
    refine pm_T.go (pc' := 15) rfl rfl rfl rfl ?_
    exact pm_T.ret rfl rfl rfl
  refine pm_T.go (pc' := 9) rfl rfl rfl rfl ?_
  refine pm_T.go (pc' := 10) rfl rfl rfl rfl ?_
  refine pm_T.go (pc' := 13) rfl rfl rfl rfl ?_
  refine pm_T.call (d' := 298) (o1 := some (.int 0)) (w1 := pm_w1) rfl rfl rfl (by decide) rfl (by decide) rfl rfl ?_ ?_
  · skip
    refine pm_T.go (pc' := 1) rfl rfl rfl rfl ?_
    refine pm_T.go (pc' := 4) rfl rfl rfl rfl ?_
    refine pm_T.go (pc' := 5) rfl rfl rfl rfl ?_
    refine pm_T.go (pc' := 6) rfl rfl rfl rfl ?_
    exact pm_T.ret rfl rfl rfl
  refine pm_T.go (pc' := 19) rfl rfl rfl rfl ?_
  refine pm_T.go (pc' := 20) rfl rfl rfl rfl ?_
  exact pm_T.ret rfl rfl rfl
theorem p1_holds_3 (b : Int32)  : p1_Ok 174 303 [.int 3, .int b] := ⟨_, _, _, p1_holds_3_x b, p1_holds_3_m b, rfl⟩
theorem p1_holds_n_x (a b : Int32) (hn : pm_cnd .lt a 0 = true) : pm_T none 299 174 0 (lv_args 0 [.ref 0, .int a, .int b]) [] pm_w1 (some (.int (Int32.ofInt (-1))), pm_w1) := by
  refine pm_T.go (pc' := 1) rfl rfl rfl rfl ?_
  refine pm_T.call (d' := 298) (o1 := some (.int 0)) (w1 := pm_w1) rfl rfl rfl (by decide) rfl (by decide) rfl rfl ?_ ?_
  · skip
    refine pm_T.go (pc' := 1) rfl rfl rfl rfl ?_
    refine pm_T.go (pc' := 2) rfl rfl rfl rfl ?_
    have h1 : pm_cnd .lt a 1 = true := by simp [pm_cnd_ci, pm_ci] at hn ⊢ <;> omega
    refine pm_T.bricmp (b := true) (pc' := 14) rfl rfl h1 rfl rfl ?_
    refine pm_T.go (pc' := 15) rfl rfl rfl rfl ?_
    exact pm_T.ret rfl rfl rfl
  refine pm_T.go (pc' := 21) rfl rfl rfl rfl ?_
  refine pm_T.go (pc' := 22) rfl rfl rfl rfl ?_
  exact pm_T.ret rfl rfl rfl
theorem p1_holds_n_m (a b : Int32) (hn : pm_cnd .lt a 0 = true) : pm_T none 299 303 0 (lv_args 0 [.ref 1131, .int a, .int b]) [] pm_w1 (some (.int (Int32.ofInt (-1))), pm_w1) := by
  refine pm_T.go (pc' := 1) rfl rfl rfl rfl ?_
  refine pm_T.go (pc' := 2) rfl rfl rfl rfl ?_
  refine pm_T.go (pc' := 3) rfl rfl rfl rfl ?_
  refine pm_T.call (d' := 298) (o1 := some (.int 0)) (w1 := pm_w1) rfl rfl rfl (by decide) rfl (by decide) rfl rfl ?_ ?_
  · skip
    refine pm_T.go (pc' := 1) rfl rfl rfl rfl ?_
    refine pm_T.go (pc' := 2) rfl rfl rfl rfl ?_
    have h1 : pm_cnd .lt a 1 = true := by simp [pm_cnd_ci, pm_ci] at hn ⊢ <;> omega
    refine pm_T.bricmp (b := true) (pc' := 14) rfl rfl h1 rfl rfl ?_
    refine pm_T.go (pc' := 15) rfl rfl rfl rfl ?_
    exact pm_T.ret rfl rfl rfl
  refine pm_T.go (pc' := 19) rfl rfl rfl rfl ?_
  refine pm_T.go (pc' := 20) rfl rfl rfl rfl ?_
  exact pm_T.ret rfl rfl rfl
theorem p1_holds_n (a b : Int32) (hn : pm_cnd .lt a 0 = true) : p1_Ok 174 303 [.int a, .int b] := ⟨_, _, _, p1_holds_n_x a b hn, p1_holds_n_m a b hn, rfl⟩
theorem p1_holds_p_x (a b : Int32) (hn : pm_cnd .ge a 4 = true) : pm_T none 299 174 0 (lv_args 0 [.ref 0, .int a, .int b]) [] pm_w1 (some (.int (Int32.ofInt (-1))), pm_w1) := by
  refine pm_T.go (pc' := 1) rfl rfl rfl rfl ?_
  refine pm_T.call (d' := 298) (o1 := some (.int 0)) (w1 := pm_w1) rfl rfl rfl (by decide) rfl (by decide) rfl rfl ?_ ?_
  · skip
    refine pm_T.go (pc' := 1) rfl rfl rfl rfl ?_
    refine pm_T.go (pc' := 2) rfl rfl rfl rfl ?_
    have h1 : pm_cnd .lt a 1 = false := by simp [pm_cnd_ci, pm_ci] at hn ⊢ <;> omega
    refine pm_T.bricmp (b := false) (pc' := 5) rfl rfl h1 rfl rfl ?_
    refine pm_T.go (pc' := 6) rfl rfl rfl rfl ?_
    refine pm_T.go (pc' := 7) rfl rfl rfl rfl ?_
    have h2 : pm_cnd .gt a 3 = true := by simp [pm_cnd_ci, pm_ci] at hn h1 ⊢ <;> omega
    refine pm_T.bricmp (b := true) (pc' := 14) rfl rfl h2 rfl rfl ?_
    refine pm_T.go (pc' := 15) rfl rfl rfl rfl ?_
    exact pm_T.ret rfl rfl rfl
  refine pm_T.go (pc' := 21) rfl rfl rfl rfl ?_
  refine pm_T.go (pc' := 22) rfl rfl rfl rfl ?_
  exact pm_T.ret rfl rfl rfl
theorem p1_holds_p_m (a b : Int32) (hn : pm_cnd .ge a 4 = true) : pm_T none 299 303 0 (lv_args 0 [.ref 1131, .int a, .int b]) [] pm_w1 (some (.int (Int32.ofInt (-1))), pm_w1) := by
  refine pm_T.go (pc' := 1) rfl rfl rfl rfl ?_
  refine pm_T.go (pc' := 2) rfl rfl rfl rfl ?_
  refine pm_T.go (pc' := 3) rfl rfl rfl rfl ?_
  refine pm_T.call (d' := 298) (o1 := some (.int 0)) (w1 := pm_w1) rfl rfl rfl (by decide) rfl (by decide) rfl rfl ?_ ?_
  · skip
    refine pm_T.go (pc' := 1) rfl rfl rfl rfl ?_
    refine pm_T.go (pc' := 2) rfl rfl rfl rfl ?_
    have h1 : pm_cnd .lt a 1 = false := by simp [pm_cnd_ci, pm_ci] at hn ⊢ <;> omega
    refine pm_T.bricmp (b := false) (pc' := 5) rfl rfl h1 rfl rfl ?_
    refine pm_T.go (pc' := 6) rfl rfl rfl rfl ?_
    refine pm_T.go (pc' := 7) rfl rfl rfl rfl ?_
    have h2 : pm_cnd .gt a 3 = true := by simp [pm_cnd_ci, pm_ci] at hn h1 ⊢ <;> omega
    refine pm_T.bricmp (b := true) (pc' := 14) rfl rfl h2 rfl rfl ?_
    refine pm_T.go (pc' := 15) rfl rfl rfl rfl ?_
    exact pm_T.ret rfl rfl rfl
  refine pm_T.go (pc' := 19) rfl rfl rfl rfl ?_
  refine pm_T.go (pc' := 20) rfl rfl rfl rfl ?_
  exact pm_T.ret rfl rfl rfl
theorem p1_holds_p (a b : Int32) (hn : pm_cnd .ge a 4 = true) : p1_Ok 174 303 [.int a, .int b] := ⟨_, _, _, p1_holds_p_x a b hn, p1_holds_p_m a b hn, rfl⟩
theorem p1_holds (a b : Int32) : p1_Ok 174 303 [.int a, .int b] := by
  rcases pk_ix a (n := 4) (by decide) with h | h | ⟨j, hj, rfl⟩
  · exact p1_holds_n a b (decide_eq_true h)
  · exact p1_holds_p a b (decide_eq_true h)
  · rcases (show j = 0 ∨ j = 1 ∨ j = 2 ∨ j = 3 by omega) with rfl | rfl | rfl | rfl
    · exact p1_holds_0 b
    · exact p1_holds_1 b
    · exact p1_holds_2 b
    · exact p1_holds_3 b
