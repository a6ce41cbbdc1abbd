/-! one call on a fresh object -/
section PMB
variable {X : Option (Nat × (Nat → Int32))} {d y pc pc' k : Nat} {L : pm_L} {st rest : List Value} {w : pm_W} {r : Option Value × pm_W}
theorem pm_T.go {i : Instr} {L' : pm_L} {st' : List Value} {w' : pm_W} (hc : pm_code y pc = some (i, k)) (hR : pm_isR i = false) (hcal : pm_cal i = (0, 0)) (ho : pm_op X (pm_own y) (pm_ml y) (pm_ini y) i pc L st w = some (pc', L', st', w')) (h : pm_T X d y pc' L' st' w' r) : pm_T X d y pc L st w r := by
  obtain ⟨c, n2, k2⟩ := w'
  exact pm_T.op hc hR hcal ho h
theorem pm_T.brif {cd : ClassFile.Cond} {off : Int} {x : Int32} {b : Bool} (hc : pm_code y pc = some (.ifCond cd off, k)) (hst : st = .int x :: rest) (hb : pm_cnd cd x 0 = b) (ht : decide ((pc : Int) + off = (pm_tgt pc off : Int)) = true) (hp : cond b (pm_tgt pc off) (pc + 3) = pc') (h : pm_T X d y pc' L rest w r) : pm_T X d y pc L st w r := by
  refine pm_T.go hc rfl rfl (w' := w) ?_ h
  subst hst
  show cond (decide ((pc : Int) + off = (pm_tgt pc off : Int))) (some (cond (pm_cnd cd x 0) (pm_tgt pc off) (pc + 3), L, rest, w)) none = _
  rw [ht, hb, hp]
  rfl
theorem pm_T.bricmp {cd : ClassFile.Cond} {off : Int} {x x2 : Int32} {b : Bool} (hc : pm_code y pc = some (.if_icmp cd off, k)) (hst : st = .int x2 :: .int x :: rest) (hb : pm_cnd cd x x2 = b) (ht : decide ((pc : Int) + off = (pm_tgt pc off : Int)) = true) (hp : cond b (pm_tgt pc off) (pc + 3) = pc') (h : pm_T X d y pc' L rest w r) : pm_T X d y pc L st w r := by
  refine pm_T.go hc rfl rfl (w' := w) ?_ h
  subst hst
  show cond (decide ((pc : Int) + off = (pm_tgt pc off : Int))) (some (cond (pm_cnd cd x x2) (pm_tgt pc off) (pc + 3), L, rest, w)) none = _
  rw [ht, hb, hp]
  rfl
theorem pm_T.tsw {dflt lo hi : Int} {offs : Array Int} {x : Int32} (hc : pm_code y pc = some (.tableswitch dflt lo hi offs, k)) (hst : st = .int x :: rest) (hb : x.toInt < lo ∨ hi < x.toInt) (ht : decide ((pc : Int) + dflt = (pm_tgt pc dflt : Int)) = true) (hp : pm_tgt pc dflt = pc') (h : pm_T X d y pc' L rest w r) : pm_T X d y pc L st w r := by
  refine pm_T.go hc rfl rfl (w' := w) ?_ h
  subst hst
  unfold pm_op
  dsimp only
  rw [decide_eq_true hb, ht, hp]
  rfl
theorem pm_T.lsw {dflt : Int} {ps : Array (Int × Int)} {x : Int32} (hc : pm_code y pc = some (.lookupswitch dflt ps, k)) (hst : st = .int x :: rest) (hps : (ps.toList.zip (ps.toList.drop 1)).all (fun q => decide (q.1.1 < q.2.1)) = true) (hb : Op.lookupswitch.offset ps.toList dflt x.toInt = dflt) (ht : decide ((pc : Int) + dflt = (pm_tgt pc dflt : Int)) = true) (hp : pm_tgt pc dflt = pc') (h : pm_T X d y pc' L rest w r) : pm_T X d y pc L st w r := by
  refine pm_T.go hc rfl rfl (w' := w) ?_ h
  subst hst
  unfold pm_op
  dsimp only
  rw [hps, hb, ht, hp]
  rfl
end PMB
set_option maxRecDepth 100000
/-! runs, with what holds behind them -/
def pm_H (X : Option (Nat × (Nat → Int32))) (d y pc : Nat) (L : pm_L) (st : List Value) (w : pm_W) (Q : Option Value → pm_W → Prop) : Prop := ∃ (o : Option Value) (w' : pm_W), pm_T X d y pc L st w (o, w') ∧ Q o w'
theorem pm_get_s {w : pm_W} {r : Nat} {e e0 : pm_E} (h : pm_get w r = some e0) : pm_get (pm_set w r e) r = some e := by
  have h1 := (pm_get_ok h).1
  show cond (Nat.blt r w.2.1) (some (pm_up w.1 r e r)) none = some e
  rw [show Nat.blt r w.2.1 = true from Nat.ble_eq_true_of_le h1, pm_up_eq, if_pos rfl]
  rfl
theorem pm_get_n {w : pm_W} {r q : Nat} {e : pm_E} (h : q ≠ r) : pm_get (pm_set w r e) q = pm_get w q := by
  show cond (Nat.blt q w.2.1) (some (pm_up w.1 r e q)) none = cond (Nat.blt q w.2.1) (some (w.1 q)) none
  rw [pm_up_eq, if_neg h]
def pm_na (kd mm : Nat) : Nat := cond (Nat.beq kd 3) (pm_np (mm - 6)) (pm_np (mm - 6) + 1)
/-- a call's own tests -/
def pm_ckd (kd mm nest : Nat) (st : List Value) (w : pm_W) : Bool := cond (Nat.ble (pm_na kd mm) st.length && Nat.ble (pm_cats (st.drop (pm_na kd mm))) 8 && Nat.ble (lg_sl (st.take (pm_na kd mm)).reverse).length (pm_ml (mm - 6)) && (cond (Nat.beq kd 3) (pm_st (mm - 6)) (!pm_st (mm - 6) && (match pm_cls w (st.take (pm_na kd mm)).reverse.head? with
            | some c => Nat.beq c (pm_own (mm - 6))
            | none => false) && (cond (Nat.beq kd 2) (pm_ini (mm - 6)) (Nat.beq nest 0 && !pm_ini (mm - 6)))))) true false
section PME
variable {X : Option (Nat × (Nat → Int32))} {d y pc pc' k : Nat} {L : pm_L} {st rest : List Value} {w : pm_W} {Q : Option Value → pm_W → Prop}
theorem pm_H.go {i : Instr} {L' : pm_L} {st' : List Value} {w' : pm_W} (hc : pm_code y pc = some (i, k)) (hR : pm_isR i = false) (hcal : pm_cal i = (0, 0)) (ho : pm_op X (pm_own y) (pm_ml y) (pm_ini y) i pc L st w = some (pc', L', st', w')) (h : pm_H X d y pc' L' st' w' Q) : pm_H X d y pc L st w Q := by
  obtain ⟨o, w1, h1, h2⟩ := h
  exact ⟨o, w1, pm_T.go hc hR hcal ho h1, h2⟩
theorem pm_H.ret {i : Instr} {o : Option Value} (hc : pm_code y pc = some (i, k)) (hR : pm_isR i = true) (ho : pm_rtn (pm_ret y) i st = some o) (h : Q o w) : pm_H X d y pc L st w Q := ⟨o, w, pm_T.ret hc hR ho, h⟩
theorem pm_H.brif {cd : ClassFile.Cond} {off : Int} {x : Int32} {b : Bool} (hc : pm_code y pc = some (.ifCond cd off, k)) (hst : st = .int x :: rest) (hb : pm_cnd cd x 0 = b) (ht : decide ((pc : Int) + off = (pm_tgt pc off : Int)) = true) (hp : cond b (pm_tgt pc off) (pc + 3) = pc') (h : pm_H X d y pc' L rest w Q) : pm_H X d y pc L st w Q := by
  obtain ⟨o, w1, h1, h2⟩ := h
  exact ⟨o, w1, pm_T.brif hc hst hb ht hp h1, h2⟩
theorem pm_H.bricmp {cd : ClassFile.Cond} {off : Int} {x x2 : Int32} {b : Bool} (hc : pm_code y pc = some (.if_icmp cd off, k)) (hst : st = .int x2 :: .int x :: rest) (hb : pm_cnd cd x x2 = b) (ht : decide ((pc : Int) + off = (pm_tgt pc off : Int)) = true) (hp : cond b (pm_tgt pc off) (pc + 3) = pc') (h : pm_H X d y pc' L rest w Q) : pm_H X d y pc L st w Q := by
  obtain ⟨o, w1, h1, h2⟩ := h
  exact ⟨o, w1, pm_T.bricmp hc hst hb ht hp h1, h2⟩
theorem pm_H.getf {j r a c q pl : Nat} {fs : List Value} {v : Value} (hc : pm_code y pc = some (.getfield j, k)) (hst : st = .ref r :: rest) (hl : pm_l4 (pm_FL (pm_own y)) j = some (a, c, q, pl)) (hg : pm_get w r = some (.inr (c, fs))) (hf : fs[q]? = some v) (h : pm_H X d y (pc + 3) L (v :: rest) w Q) : pm_H X d y pc L st w Q := by
  refine pm_H.go hc rfl rfl (L' := L) (st' := v :: rest) (w' := w) ?_ h
  subst hst
  unfold pm_op
  dsimp only
  rw [hl]
  dsimp only
  rw [hg]
  dsimp only
  rw [Nat.beq_refl, hf]
  rfl
theorem pm_H.putf {j r a c q pl : Nat} {fs : List Value} {v : Value} (hc : pm_code y pc = some (.putfield j, k)) (hst : st = v :: .ref r :: rest) (hl : pm_l4 (pm_FL (pm_own y)) j = some (a, c, q, pl)) (hg : pm_get w r = some (.inr (c, fs))) (hq : q < fs.length) (hok : pm_okv ((pm_Ts c).getD q .int) v = true) (hfin : (!((pm_Fs c).getD q ("", "", "", false)).2.2.2 || (pm_ini y && Nat.beq c (pm_own y))) = true)
    (h : pm_H X d y (pc + 3) L rest (pm_set w r (.inr (c, fs.set q v))) Q) : pm_H X d y pc L st w Q := by
  refine pm_H.go hc rfl rfl (L' := L) (st' := rest) (w' := pm_set w r (.inr (c, fs.set q v))) ?_ h
  subst hst
  unfold pm_op
  dsimp only
  rw [hl]
  dsimp only
  rw [hg]
  dsimp only
  rw [Nat.beq_refl, show Nat.blt q fs.length = true from Nat.ble_eq_true_of_le hq, hok, hfin]
  rfl
theorem pm_H.alen {r t n : Nat} {f : pm_C} (hc : pm_code y pc = some (.arraylength, k)) (hst : st = .ref r :: rest) (hr : Nat.beq r pm_SC = false) (hg : pm_get w r = some (.inl (t, n, f))) (ht : t < 8) (h : pm_H X d y (pc + 1) L (.int (nI n) :: rest) w Q) : pm_H X d y pc L st w Q := by
  refine pm_H.go hc rfl rfl (L' := L) (st' := .int (nI n) :: rest) (w' := w) ?_ h
  subst hst
  unfold pm_op
  dsimp only
  rw [hr, hg]
  dsimp only
  rw [show Nat.blt t 8 = true from Nat.ble_eq_true_of_le ht]
  rfl
theorem pm_H.bast {r t n : Nat} {i x : Int32} {f : List (Nat × Int32)} (hc : pm_code y pc = some (.bastore, k)) (hst : st = .int x :: .int i :: .ref r :: rest) (hg : pm_get w r = some (.inl (t, n, .inl f))) (ht : (Nat.beq t 1 || Nat.beq t 2) = true) (hi : pm_in i n = true)
    (h : pm_H X d y (pc + 1) L rest (pm_set w r (.inl (t, n, .inl ((i.toNatClampNeg, vp_nar (pm_ty t) x) :: f)))) Q) : pm_H X d y pc L st w Q := by
  refine pm_H.go hc rfl rfl (L' := L) (st' := rest) (w' := pm_set w r (.inl (t, n, .inl ((i.toNatClampNeg, vp_nar (pm_ty t) x) :: f)))) ?_ h
  subst hst
  unfold pm_op
  dsimp only
  rw [hg]
  dsimp only
  rw [ht, hi]
  rfl
theorem pm_H.call {d' kd j a mm pl nest : Nat} {i : Instr} {Q1 : Option Value → pm_W → Prop} (hc : pm_code y pc = some (i, k)) (hR : pm_isR i = false) (hcal : pm_cal i = (kd, j)) (hkd : kd ≠ 0) (hl : pm_l4 (pm_ML (pm_own y)) j = some (a, mm, pl, nest)) (h6 : 5 < mm) (hd : d = d' + 1)
    (hck : pm_ckd kd mm nest st w = true)
    (hcall : pm_H X d' (mm - 6) 0 (lv_args 0 (st.take (pm_na kd mm)).reverse) [] w Q1) (h : ∀ (o1 : Option Value) (w1 : pm_W), Q1 o1 w1 → pm_H X d y (pc + 3) L (o1.toList ++ st.drop (pm_na kd mm)) w1 Q) : pm_H X d y pc L st w Q := by
  obtain ⟨o1, w1, c1, c2⟩ := hcall
  obtain ⟨o, w2, h1, h2⟩ := h o1 w1 c2
  exact ⟨o, w2, pm_T.call hc hR hcal hkd hl h6 hd hck c1 h1, h2⟩
end PME
