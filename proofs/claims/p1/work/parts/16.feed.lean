set_option maxRecDepth 100000
/-! runs, with what holds behind them -/
def pm_H (X : Option (Nat × (Nat → Int32))) (d y pc : Nat) (L : pm_L) (st : List Value) (w : pm_W) (Q : Option Value → pm_W → Prop) : Prop := ∃ (o : Option Value) (w' : pm_W), pm_T X d y pc L st w (o, w') ∧ Q o w'
theorem pm_get_s {w : pm_W} {r : Nat} {e e0 : pm_E} (h : pm_get w r = some e0) : pm_get (pm_set w r e) r = some e := by
  have h1 := (pm_get_ok h).1
  show cond (Nat.blt r w.2.1) (some (pm_up w.1 r e r)) none = some e
  rw [show Nat.blt r w.2.1 = true from Nat.ble_eq_true_of_le h1, pm_up_eq, if_pos rfl]
  rfl
theorem pm_get_n {w : pm_W} {r q : Nat} {e : pm_E} (h : q ≠ r) : pm_get (pm_set w r e) q = pm_get w q := by
  show cond (Nat.blt q w.2.1) (some (pm_up w.1 r e q)) none = cond (Nat.blt q w.2.1) (some (w.1 q)) none
  rw [pm_up_eq, if_neg h]
def pm_na (kd mm : Nat) : Nat := cond (Nat.beq kd 3) (pm_np (mm - 6)) (pm_np (mm - 6) + 1)
/-- a call's own tests -/
def pm_ckd (kd mm nest : Nat) (st : List Value) (w : pm_W) : Bool := cond (Nat.ble (pm_na kd mm) st.length && Nat.ble (pm_cats (st.drop (pm_na kd mm))) 8 && Nat.ble (lg_sl (st.take (pm_na kd mm)).reverse).length (pm_ml (mm - 6)) && (cond (Nat.beq kd 3) (pm_st (mm - 6)) (!pm_st (mm - 6) && (match pm_cls w (st.take (pm_na kd mm)).reverse.head? with
            | some c => Nat.beq c (pm_own (mm - 6))
            | none => false) && (cond (Nat.beq kd 2) (pm_ini (mm - 6)) (Nat.beq nest 0 && !pm_ini (mm - 6)))))) true false
section PME
variable {X : Option (Nat × (Nat → Int32))} {d y pc pc' k : Nat} {L : pm_L} {st rest : List Value} {w : pm_W} {Q : Option Value → pm_W → Prop}
theorem pm_H.go {i : Instr} {L' : pm_L} {st' : List Value} {w' : pm_W} (hc : pm_code y pc = some (i, k)) (hR : pm_isR i = false) (hcal : pm_cal i = (0, 0)) (ho : pm_op X (pm_own y) (pm_ml y) (pm_ini y) i pc L st w = some (pc', L', st', w')) (h : pm_H X d y pc' L' st' w' Q) : pm_H X d y pc L st w Q := by
  obtain ⟨o, w1, h1, h2⟩ := h
  exact ⟨o, w1, pm_T.go hc hR hcal ho h1, h2⟩
theorem pm_H.ret {i : Instr} {o : Option Value} (hc : pm_code y pc = some (i, k)) (hR : pm_isR i = true) (ho : pm_rtn (pm_ret y) i st = some o) (h : Q o w) : pm_H X d y pc L st w Q := ⟨o, w, pm_T.ret hc hR ho, h⟩
theorem pm_H.brif {cd : ClassFile.Cond} {off : Int} {x : Int32} {b : Bool} (hc : pm_code y pc = some (.ifCond cd off, k)) (hst : st = .int x :: rest) (hb : pm_cnd cd x 0 = b) (ht : decide ((pc : Int) + off = (pm_tgt pc off : Int)) = true) (hp : cond b (pm_tgt pc off) (pc + 3) = pc') (h : pm_H X d y pc' L rest w Q) : pm_H X d y pc L st w Q := by
  obtain ⟨o, w1, h1, h2⟩ := h
  exact ⟨o, w1, pm_T.brif hc hst hb ht hp h1, h2⟩
theorem pm_H.bricmp {cd : ClassFile.Cond} {off : Int} {x x2 : Int32} {b : Bool} (hc : pm_code y pc = some (.if_icmp cd off, k)) (hst : st = .int x2 :: .int x :: rest) (hb : pm_cnd cd x x2 = b) (ht : decide ((pc : Int) + off = (pm_tgt pc off : Int)) = true) (hp : cond b (pm_tgt pc off) (pc + 3) = pc') (h : pm_H X d y pc' L rest w Q) : pm_H X d y pc L st w Q := by
  obtain ⟨o, w1, h1, h2⟩ := h
  exact ⟨o, w1, pm_T.bricmp hc hst hb ht hp h1, h2⟩
theorem pm_H.getf {j r a c q pl : Nat} {fs : List Value} {v : Value} (hc : pm_code y pc = some (.getfield j, k)) (hst : st = .ref r :: rest) (hl : pm_l4 (pm_FL (pm_own y)) j = some (a, c, q, pl)) (hg : pm_get w r = some (.inr (c, fs))) (hf : fs[q]? = some v) (h : pm_H X d y (pc + 3) L (v :: rest) w Q) : pm_H X d y pc L st w Q := by
  refine pm_H.go hc rfl rfl (L' := L) (st' := v :: rest) (w' := w) ?_ h
  subst hst
  unfold pm_op
  dsimp only
  rw [hl]
  dsimp only
  rw [hg]
  dsimp only
  rw [Nat.beq_refl, hf]
  rfl
theorem pm_H.putf {j r a c q pl : Nat} {fs : List Value} {v : Value} (hc : pm_code y pc = some (.putfield j, k)) (hst : st = v :: .ref r :: rest) (hl : pm_l4 (pm_FL (pm_own y)) j = some (a, c, q, pl)) (hg : pm_get w r = some (.inr (c, fs))) (hq : q < fs.length) (hok : pm_okv ((pm_Ts c).getD q .int) v = true) (hfin : (!((pm_Fs c).getD q ("", "", "", false)).2.2.2 || (pm_ini y && Nat.beq c (pm_own y))) = true)
    (h : pm_H X d y (pc + 3) L rest (pm_set w r (.inr (c, fs.set q v))) Q) : pm_H X d y pc L st w Q := by
  refine pm_H.go hc rfl rfl (L' := L) (st' := rest) (w' := pm_set w r (.inr (c, fs.set q v))) ?_ h
  subst hst
  unfold pm_op
  dsimp only
  rw [hl]
  dsimp only
  rw [hg]
  dsimp only
  rw [Nat.beq_refl, show Nat.blt q fs.length = true from Nat.ble_eq_true_of_le hq, hok, hfin]
  rfl
theorem pm_H.alen {r t n : Nat} {f : pm_C} (hc : pm_code y pc = some (.arraylength, k)) (hst : st = .ref r :: rest) (hr : Nat.beq r pm_SC = false) (hg : pm_get w r = some (.inl (t, n, f))) (ht : t < 8) (h : pm_H X d y (pc + 1) L (.int (nI n) :: rest) w Q) : pm_H X d y pc L st w Q := by
  refine pm_H.go hc rfl rfl (L' := L) (st' := .int (nI n) :: rest) (w' := w) ?_ h
  subst hst
  unfold pm_op
  dsimp only
  rw [hr, hg]
  dsimp only
  rw [show Nat.blt t 8 = true from Nat.ble_eq_true_of_le ht]
  rfl
theorem pm_H.bast {r t n : Nat} {i x : Int32} {f : List (Nat × Int32)} (hc : pm_code y pc = some (.bastore, k)) (hst : st = .int x :: .int i :: .ref r :: rest) (hg : pm_get w r = some (.inl (t, n, .inl f))) (ht : (Nat.beq t 1 || Nat.beq t 2) = true) (hi : pm_in i n = true)
    (h : pm_H X d y (pc + 1) L rest (pm_set w r (.inl (t, n, .inl ((i.toNatClampNeg, vp_nar (pm_ty t) x) :: f)))) Q) : pm_H X d y pc L st w Q := by
  refine pm_H.go hc rfl rfl (L' := L) (st' := rest) (w' := pm_set w r (.inl (t, n, .inl ((i.toNatClampNeg, vp_nar (pm_ty t) x) :: f)))) ?_ h
  subst hst
  unfold pm_op
  dsimp only
  rw [hg]
  dsimp only
  rw [ht, hi]
  rfl
theorem pm_H.call {d' kd j a mm pl nest : Nat} {i : Instr} {Q1 : Option Value → pm_W → Prop} (hc : pm_code y pc = some (i, k)) (hR : pm_isR i = false) (hcal : pm_cal i = (kd, j)) (hkd : kd ≠ 0) (hl : pm_l4 (pm_ML (pm_own y)) j = some (a, mm, pl, nest)) (h6 : 5 < mm) (hd : d = d' + 1)
    (hck : pm_ckd kd mm nest st w = true)
    (hcall : pm_H X d' (mm - 6) 0 (lv_args 0 (st.take (pm_na kd mm)).reverse) [] w Q1) (h : ∀ (o1 : Option Value) (w1 : pm_W), Q1 o1 w1 → pm_H X d y (pc + 3) L (o1.toList ++ st.drop (pm_na kd mm)) w1 Q) : pm_H X d y pc L st w Q := by
  obtain ⟨o1, w1, c1, c2⟩ := hcall
  obtain ⟨o, w2, h1, h2⟩ := h o1 w1 c2
  exact ⟨o, w2, pm_T.call hc hR hcal hkd hl h6 hd hck c1 h1, h2⟩
end PME

/-- the class's tape has n bytes -/
def pm_tX (w : pm_W) (n : Nat) : Prop := ∃ (fs : List Value) (f : List (Nat × Int32)), pm_get w 0 = some (.inr (11, fs)) ∧ fs.length = 13 ∧ fs[1]? = some (.int (nI n)) ∧ fs[0]? = some (.ref 1) ∧ pm_get w 1 = some (.inl (1, 1600, .inl f))
def pm_tM (w : pm_W) (n : Nat) : Prop := ∃ (fs : List Value) (f : List (Nat × Int32)), pm_get w 1131 = some (.inr (12, fs)) ∧ fs.length = 77 ∧ fs[3]? = some (.int (nI n)) ∧ fs[0]? = some (.ref 1132) ∧ pm_get w 1132 = some (.inl (1, 1620, .inl f))
theorem pm_b_lt0 {n : Nat} (h : n < 1700) : pm_cnd .lt (nI n) 0 = false := decide_eq_false (nI_pos (by omega))
theorem pm_b_ge {n k : Nat} (h : n < k) (hk : k < 1700) : pm_cnd .ge (nI n) (nI k) = false := decide_eq_false (nI_ge h (by omega))
theorem pm_b_in {n k : Nat} (h : n < k) (hk : k < 1700) : pm_in (nI n) k = true := by
  unfold pm_in
  rw [decide_eq_true (nI_pos' (by omega)), nI_clamp (by omega), show Nat.blt n k = true from Nat.ble_eq_true_of_le h]
  rfl
theorem pm_put1 {d n : Nat} {a : Int32} {s s' : Int32} {w : pm_W} {Q : Option Value → pm_W → Prop} (hs : pm_cnd .lt s 0 = false) (hs' : s + Int32.ofInt (-8) = s') (hn : n < 1600) (hw : pm_tX w n) (h : ∀ w' : pm_W, pm_tX w' (n + 1) → w'.2 = w.2 → (∀ q, q ≠ 0 → q ≠ 1 → pm_get w' q = pm_get w q) → pm_H none d 179 3 [(2, .int s'), (0, .ref 0), (1, .int a)] [] w' Q) : pm_H none d 179 3 [(2, .int s), (0, .ref 0), (1, .int a)] [] w Q := by
  obtain ⟨fs, f, g0, gl, gn, gt, g1⟩ := hw
  refine pm_H.go (pc' := 4) rfl rfl rfl rfl ?_
  refine pm_H.brif (b := false) (pc' := 7) rfl rfl hs rfl rfl ?_
  refine pm_H.go (pc' := 8) rfl rfl rfl rfl ?_
  refine pm_H.getf rfl rfl rfl g0 gn ?_
  refine pm_H.brif (b := false) (pc' := 14) rfl rfl (pm_b_lt0 (by omega)) rfl rfl ?_
  refine pm_H.go (pc' := 15) rfl rfl rfl rfl ?_
  refine pm_H.getf rfl rfl rfl g0 gn ?_
  refine pm_H.go (pc' := 19) rfl rfl rfl rfl ?_
  refine pm_H.getf rfl rfl rfl g0 gt ?_
  refine pm_H.alen rfl rfl rfl g1 (by decide) ?_
  refine pm_H.bricmp (b := false) (pc' := 26) rfl rfl (pm_b_ge hn (by decide)) rfl rfl ?_
  refine pm_H.go (pc' := 27) rfl rfl rfl rfl ?_
  refine pm_H.getf rfl rfl rfl g0 gt ?_
  refine pm_H.go (pc' := 31) rfl rfl rfl rfl ?_
  refine pm_H.getf rfl rfl rfl g0 gn ?_
  refine pm_H.go (pc' := 35) rfl rfl rfl rfl ?_
  refine pm_H.go (pc' := 36) rfl rfl rfl rfl ?_
  refine pm_H.go (pc' := 37) rfl rfl rfl rfl ?_
  refine pm_H.go (pc' := 38) rfl rfl rfl rfl ?_
  refine pm_H.bast rfl rfl g1 rfl (pm_b_in hn (by decide)) ?_
  have k0 : pm_get (pm_set w 1 (.inl (1, 1600, .inl (((nI n).toNatClampNeg, vp_nar (pm_ty 1) (a >>> (s &&& 31)).toInt8.toInt32) :: f)))) 0 = some (.inr (11, fs)) := (pm_get_n (by decide)).trans g0
  have k1 := pm_get_s (e := .inl (1, 1600, .inl (((nI n).toNatClampNeg, vp_nar (pm_ty 1) (a >>> (s &&& 31)).toInt8.toInt32) :: f))) g1
  have kz : (pm_set w 1 (.inl (1, 1600, .inl (((nI n).toNatClampNeg, vp_nar (pm_ty 1) (a >>> (s &&& 31)).toInt8.toInt32) :: f)))).2 = w.2 := rfl
  have ko : ∀ q, q ≠ 1 → pm_get (pm_set w 1 (.inl (1, 1600, .inl (((nI n).toNatClampNeg, vp_nar (pm_ty 1) (a >>> (s &&& 31)).toInt8.toInt32) :: f)))) q = pm_get w q := fun q hq => pm_get_n hq
  generalize pm_set w 1 (.inl (1, 1600, .inl (((nI n).toNatClampNeg, vp_nar (pm_ty 1) (a >>> (s &&& 31)).toInt8.toInt32) :: f))) = w1 at k0 k1 kz ko ⊢
  refine pm_H.go (pc' := 40) rfl rfl rfl rfl ?_
  refine pm_H.go (pc' := 41) rfl rfl rfl rfl ?_
  refine pm_H.getf rfl rfl rfl k0 gn ?_
  refine pm_H.go (pc' := 45) rfl rfl rfl rfl ?_
  refine pm_H.go (pc' := 46) (st' := [.int (nI (n + 1)), .ref 0]) rfl rfl rfl (by rw [nI_succ]; rfl) ?_
  refine pm_H.putf rfl rfl rfl k0 (by rw [gl]; decide) rfl rfl ?_
  have hx := h (pm_set w1 0 (.inr (11, fs.set 1 (.int (nI (n + 1)))))) ⟨_, _, pm_get_s k0, by rw [List.length_set]; exact gl, by rw [List.getElem?_set_self (by rw [gl]; decide)], by rw [List.getElem?_set_ne (by decide)]; exact gt, (pm_get_n (by decide)).trans k1⟩ kz (fun q h1 h2 => (pm_get_n h1).trans (ko q h2))
  refine pm_H.go (pc' := 52) rfl rfl rfl rfl ?_
  refine pm_H.go (pc' := 3) rfl rfl rfl rfl ?_
  rw [← hs'] at hx
  exact hx
theorem pm_put4 {d n : Nat} {a : Int32} {w : pm_W} (hn : n + 3 < 1600) (hw : pm_tX w n) : pm_H none d 179 0 [(0, .ref 0), (1, .int a)] [] w (fun o w' => o = none ∧ pm_tX w' (n + 4) ∧ w'.2 = w.2 ∧ ∀ q, q ≠ 0 → q ≠ 1 → pm_get w' q = pm_get w q) := by
  refine pm_H.go (pc' := 2) rfl rfl rfl rfl ?_
  refine pm_H.go (pc' := 3) rfl rfl rfl rfl ?_
  refine pm_put1 (s' := 16) (by decide) (by decide) (by omega) hw (fun w1 h1 z1 o1 => ?_)
  refine pm_put1 (s' := 8) (by decide) (by decide) (by omega) h1 (fun w2 h2 z2 o2 => ?_)
  refine pm_put1 (s' := 0) (by decide) (by decide) (by omega) h2 (fun w3 h3 z3 o3 => ?_)
  refine pm_put1 (s' := -8) (by decide) (by decide) (by omega) h3 (fun w4 h4 z4 o4 => ?_)
  refine pm_H.go (pc' := 4) rfl rfl rfl rfl ?_
  refine pm_H.brif (b := true) (pc' := 55) rfl rfl (by decide) rfl rfl ?_
  exact pm_H.ret rfl rfl rfl ⟨rfl, h4, z4.trans (z3.trans (z2.trans z1)), fun q p1 p2 => (o4 q p1 p2).trans ((o3 q p1 p2).trans ((o2 q p1 p2).trans (o1 q p1 p2)))⟩
theorem pm_feedX {d n : Nat} {a b c e f : Int32} {w : pm_W} (hn : n + 20 ≤ 1600) (hw : pm_tX w n) : pm_H none (d + 1) 149 0 (lv_args 0 [.ref 0, .int a, .int b, .int c, .int e, .int f]) [] w (fun o w' => o = some (.int (nI (n + 20))) ∧ pm_tX w' (n + 20) ∧ w'.2 = w.2 ∧ ∀ q, q ≠ 0 → q ≠ 1 → pm_get w' q = pm_get w q) := by
  have hw0 := hw
  obtain ⟨fs, lg, g0, gl, gn, gt, g1⟩ := hw
  have ck : ∀ (w : pm_W) (n : Nat) (x : Int32), pm_tX w n → pm_ckd 1 185 0 [.int x, .ref 0] w = true := by
    intro w n x hw
    obtain ⟨fs, lg, g0, -⟩ := hw
    unfold pm_ckd
    have e : pm_cls w (([.int x, .ref 0] : List Value).take (pm_na 1 185)).reverse.head? = some 11 := by
      show pm_cls w (some (.ref 0)) = _
      unfold pm_cls
      dsimp only
      rw [g0]
    rw [e]
    rfl
  refine pm_H.go (pc' := 1) rfl rfl rfl rfl ?_
  refine pm_H.getf rfl rfl rfl g0 gn ?_
  refine pm_H.go (pc' := 6) rfl rfl rfl rfl ?_
  refine pm_H.go (pc' := 7) (st' := [.int (nI (n + 20))]) rfl rfl rfl (by rw [← nI_add]; rfl) ?_
  refine pm_H.go (pc' := 10) rfl rfl rfl rfl ?_
  refine pm_H.bricmp (b := true) (pc' := 15) rfl rfl (decide_eq_true (nI_le (b := 1600) hn (by decide))) rfl rfl ?_
  refine pm_H.go (pc' := 16) rfl rfl rfl rfl ?_
  refine pm_H.go (pc' := 17) rfl rfl rfl rfl ?_
  refine pm_H.call (d' := d) rfl rfl rfl (by decide) rfl (by decide) rfl (ck _ _ _ hw0) (pm_put4 (by omega) hw0) (fun o0 w0 hh => ?_)
  obtain ⟨rfl, t0, z0, u0⟩ := hh
  refine pm_H.go (pc' := 21) rfl rfl rfl rfl ?_
  refine pm_H.go (pc' := 22) rfl rfl rfl rfl ?_
  refine pm_H.call (d' := d) rfl rfl rfl (by decide) rfl (by decide) rfl (ck _ _ _ t0) (pm_put4 (by omega) t0) (fun o1 w1 hh => ?_)
  obtain ⟨rfl, t1, z1, u1⟩ := hh
  refine pm_H.go (pc' := 26) rfl rfl rfl rfl ?_
  refine pm_H.go (pc' := 27) rfl rfl rfl rfl ?_
  refine pm_H.call (d' := d) rfl rfl rfl (by decide) rfl (by decide) rfl (ck _ _ _ t1) (pm_put4 (by omega) t1) (fun o2 w2 hh => ?_)
  obtain ⟨rfl, t2, z2, u2⟩ := hh
  refine pm_H.go (pc' := 31) rfl rfl rfl rfl ?_
  refine pm_H.go (pc' := 33) rfl rfl rfl rfl ?_
  refine pm_H.call (d' := d) rfl rfl rfl (by decide) rfl (by decide) rfl (ck _ _ _ t2) (pm_put4 (by omega) t2) (fun o3 w3 hh => ?_)
  obtain ⟨rfl, t3, z3, u3⟩ := hh
  refine pm_H.go (pc' := 37) rfl rfl rfl rfl ?_
  refine pm_H.go (pc' := 39) rfl rfl rfl rfl ?_
  refine pm_H.call (d' := d) rfl rfl rfl (by decide) rfl (by decide) rfl (ck _ _ _ t3) (pm_put4 (by omega) t3) (fun o4 w4 hh => ?_)
  obtain ⟨rfl, t4, z4, u4⟩ := hh
  have t4' := t4
  obtain ⟨fs5, lg5, g50, gl5, gn5, -⟩ := t4
  refine pm_H.go (pc' := 43) rfl rfl rfl rfl ?_
  refine pm_H.getf rfl rfl rfl g50 gn5 ?_
  refine pm_H.ret rfl rfl rfl ⟨?_, t4', z4.trans (z3.trans (z2.trans (z1.trans z0))), fun q p1 p2 => (u4 q p1 p2).trans ((u3 q p1 p2).trans ((u2 q p1 p2).trans ((u1 q p1 p2).trans (u0 q p1 p2))))⟩
  rw [show n + 4 + 4 + 4 + 4 + 4 = n + 20 by omega]
theorem pm_set_gen {P : pm_W → Prop} {w w0 : pm_W} {t n r : Nat} {f : List (Nat × Int32)} {x : Nat × Int32} {e : pm_E} (g1 : pm_get w0 t = some (.inl (1, n, .inl f))) (hrt : r ≠ t) (g0 : pm_get w0 r = some e) (ko : ∀ q, q ≠ t → pm_get w0 q = pm_get w q) (z : w0.2 = w.2)
    (h : ∀ (w2 : pm_W) (lg : List (Nat × Int32)), pm_get w2 r = some e → pm_get w2 t = some (.inl (1, n, .inl lg)) → (∀ q, q ≠ t → pm_get w2 q = pm_get w q) → w2.2 = w.2 → P w2) : P (pm_set w0 t (.inl (1, n, .inl (x :: f)))) :=
  h _ _ ((pm_get_n hrt).trans g0) (pm_get_s g1) (fun q hq => (pm_get_n hq).trans (ko q hq)) z
theorem pm_b_nk {n k : Nat} (hn : n + 20 ≤ 1600) (hk : k < 20) : pm_in (nI n + nI k) 1620 = true := by rw [nI_add]; exact pm_b_in (by omega) (by decide)
theorem pm_feedM {d n : Nat} {a b c e f : Int32} {w : pm_W} (hn : n + 20 ≤ 1600) (hw : pm_tM w n) : pm_H none d 308 0 (lv_args 0 [.ref 1131, .int a, .int b, .int c, .int e, .int f]) [] w (fun o w' => o = some (.int (nI (n + 20))) ∧ pm_tM w' (n + 20) ∧ w'.2 = w.2 ∧ ∀ q, q ≠ 1131 → q ≠ 1132 → pm_get w' q = pm_get w q) := by
  obtain ⟨fs, lg, g0, gl, gn, gt, g1⟩ := hw
  refine pm_H.go (pc' := 1) rfl rfl rfl rfl ?_
  refine pm_H.getf rfl rfl rfl g0 gn ?_
  refine pm_H.go (pc' := 6) rfl rfl rfl rfl ?_
  refine pm_H.go (pc' := 7) (st' := [.int (nI (n + 20))]) rfl rfl rfl (by rw [← nI_add]; rfl) ?_
  refine pm_H.go (pc' := 10) rfl rfl rfl rfl ?_
  refine pm_H.bricmp (b := true) (pc' := 15) rfl rfl (decide_eq_true (nI_le (b := 1600) hn (by decide))) rfl rfl ?_
  refine pm_H.go (pc' := 16) rfl rfl rfl rfl ?_
  refine pm_H.go (pc' := 18) rfl rfl rfl rfl ?_
  have z : w.2 = w.2 := rfl
  have ko : ∀ q, q ≠ 1132 → pm_get w q = pm_get w q := fun q _ => rfl
  refine pm_H.go (pc' := 20) rfl rfl rfl rfl ?_
  refine pm_H.go (pc' := 22) rfl rfl rfl rfl ?_
  refine pm_H.bricmp (b := false) (pc' := 25) rfl rfl (by decide) rfl rfl ?_
  refine pm_H.go (pc' := 27) rfl rfl rfl rfl ?_
  refine pm_H.go (pc' := 28) rfl rfl rfl rfl ?_
  refine pm_H.bricmp (b := false) (pc' := 31) rfl rfl (by decide) rfl rfl ?_
  refine pm_H.go (pc' := 32) rfl rfl rfl rfl ?_
  refine pm_H.go (pc' := 71) rfl rfl rfl rfl ?_
  refine pm_H.go (pc' := 73) rfl rfl rfl rfl ?_
  refine pm_H.go (pc' := 74) rfl rfl rfl rfl ?_
  refine pm_H.getf rfl rfl rfl g0 gt ?_
  refine pm_H.go (pc' := 78) rfl rfl rfl rfl ?_
  refine pm_H.getf rfl rfl rfl g0 gn ?_
  refine pm_H.go (pc' := 83) rfl rfl rfl rfl ?_
  refine pm_H.go (pc' := 84) (st' := [.int (nI n + nI 0), .ref 1132]) rfl rfl rfl rfl ?_
  refine pm_H.go (pc' := 86) rfl rfl rfl rfl ?_
  refine pm_H.go (pc' := 88) rfl rfl rfl rfl ?_
  refine pm_H.go (pc' := 90) rfl rfl rfl rfl ?_
  refine pm_H.go (pc' := 92) rfl rfl rfl rfl ?_
  refine pm_H.go (pc' := 93) rfl rfl rfl rfl ?_
  refine pm_H.go (pc' := 94) rfl rfl rfl rfl ?_
  refine pm_H.go (pc' := 95) rfl rfl rfl rfl ?_
  refine pm_H.go (pc' := 96) rfl rfl rfl rfl ?_
  refine pm_H.go (pc' := 97) rfl rfl rfl rfl ?_
  refine pm_H.go (pc' := 98) rfl rfl rfl rfl ?_
  refine pm_H.bast rfl rfl g1 rfl (pm_b_nk hn (by decide)) ?_
  refine pm_H.go (pc' := 102) (L' := [(6, .int 1), (7, .int a), (0, .ref 1131), (1, .int a), (2, .int b), (3, .int c), (4, .int e), (5, .int f)]) rfl rfl rfl rfl ?_
  refine pm_H.go (pc' := 18) rfl rfl rfl rfl ?_
  refine pm_set_gen (P := fun w2 => pm_H none d 308 18 _ [] w2 _) g1 (by decide) g0 ko z (fun w1 lg1 g0 g1 ko z => ?_)
  refine pm_H.go (pc' := 20) rfl rfl rfl rfl ?_
  refine pm_H.go (pc' := 22) rfl rfl rfl rfl ?_
  refine pm_H.bricmp (b := false) (pc' := 25) rfl rfl (by decide) rfl rfl ?_
  refine pm_H.go (pc' := 27) rfl rfl rfl rfl ?_
  refine pm_H.go (pc' := 28) rfl rfl rfl rfl ?_
  refine pm_H.bricmp (b := false) (pc' := 31) rfl rfl (by decide) rfl rfl ?_
  refine pm_H.go (pc' := 32) rfl rfl rfl rfl ?_
  refine pm_H.go (pc' := 71) rfl rfl rfl rfl ?_
  refine pm_H.go (pc' := 73) rfl rfl rfl rfl ?_
  refine pm_H.go (pc' := 74) rfl rfl rfl rfl ?_
  refine pm_H.getf rfl rfl rfl g0 gt ?_
  refine pm_H.go (pc' := 78) rfl rfl rfl rfl ?_
  refine pm_H.getf rfl rfl rfl g0 gn ?_
  refine pm_H.go (pc' := 83) rfl rfl rfl rfl ?_
  refine pm_H.go (pc' := 84) (st' := [.int (nI n + nI 1), .ref 1132]) rfl rfl rfl rfl ?_
  refine pm_H.go (pc' := 86) rfl rfl rfl rfl ?_
  refine pm_H.go (pc' := 88) rfl rfl rfl rfl ?_
  refine pm_H.go (pc' := 90) rfl rfl rfl rfl ?_
  refine pm_H.go (pc' := 92) rfl rfl rfl rfl ?_
  refine pm_H.go (pc' := 93) rfl rfl rfl rfl ?_
  refine pm_H.go (pc' := 94) rfl rfl rfl rfl ?_
  refine pm_H.go (pc' := 95) rfl rfl rfl rfl ?_
  refine pm_H.go (pc' := 96) rfl rfl rfl rfl ?_
  refine pm_H.go (pc' := 97) rfl rfl rfl rfl ?_
  refine pm_H.go (pc' := 98) rfl rfl rfl rfl ?_
  refine pm_H.bast rfl rfl g1 rfl (pm_b_nk hn (by decide)) ?_
  refine pm_H.go (pc' := 102) (L' := [(6, .int 2), (7, .int a), (0, .ref 1131), (1, .int a), (2, .int b), (3, .int c), (4, .int e), (5, .int f)]) rfl rfl rfl rfl ?_
  refine pm_H.go (pc' := 18) rfl rfl rfl rfl ?_
  refine pm_set_gen (P := fun w2 => pm_H none d 308 18 _ [] w2 _) g1 (by decide) g0 ko z (fun w2 lg2 g0 g1 ko z => ?_)
  refine pm_H.go (pc' := 20) rfl rfl rfl rfl ?_
  refine pm_H.go (pc' := 22) rfl rfl rfl rfl ?_
  refine pm_H.bricmp (b := false) (pc' := 25) rfl rfl (by decide) rfl rfl ?_
  refine pm_H.go (pc' := 27) rfl rfl rfl rfl ?_
  refine pm_H.go (pc' := 28) rfl rfl rfl rfl ?_
  refine pm_H.bricmp (b := false) (pc' := 31) rfl rfl (by decide) rfl rfl ?_
  refine pm_H.go (pc' := 32) rfl rfl rfl rfl ?_
  refine pm_H.go (pc' := 71) rfl rfl rfl rfl ?_
  refine pm_H.go (pc' := 73) rfl rfl rfl rfl ?_
  refine pm_H.go (pc' := 74) rfl rfl rfl rfl ?_
  refine pm_H.getf rfl rfl rfl g0 gt ?_
  refine pm_H.go (pc' := 78) rfl rfl rfl rfl ?_
  refine pm_H.getf rfl rfl rfl g0 gn ?_
  refine pm_H.go (pc' := 83) rfl rfl rfl rfl ?_
  refine pm_H.go (pc' := 84) (st' := [.int (nI n + nI 2), .ref 1132]) rfl rfl rfl rfl ?_
  refine pm_H.go (pc' := 86) rfl rfl rfl rfl ?_
  refine pm_H.go (pc' := 88) rfl rfl rfl rfl ?_
  refine pm_H.go (pc' := 90) rfl rfl rfl rfl ?_
  refine pm_H.go (pc' := 92) rfl rfl rfl rfl ?_
  refine pm_H.go (pc' := 93) rfl rfl rfl rfl ?_
  refine pm_H.go (pc' := 94) rfl rfl rfl rfl ?_
  refine pm_H.go (pc' := 95) rfl rfl rfl rfl ?_
  refine pm_H.go (pc' := 96) rfl rfl rfl rfl ?_
  refine pm_H.go (pc' := 97) rfl rfl rfl rfl ?_
  refine pm_H.go (pc' := 98) rfl rfl rfl rfl ?_
  refine pm_H.bast rfl rfl g1 rfl (pm_b_nk hn (by decide)) ?_
  refine pm_H.go (pc' := 102) (L' := [(6, .int 3), (7, .int a), (0, .ref 1131), (1, .int a), (2, .int b), (3, .int c), (4, .int e), (5, .int f)]) rfl rfl rfl rfl ?_
  refine pm_H.go (pc' := 18) rfl rfl rfl rfl ?_
  refine pm_set_gen (P := fun w2 => pm_H none d 308 18 _ [] w2 _) g1 (by decide) g0 ko z (fun w3 lg3 g0 g1 ko z => ?_)
  refine pm_H.go (pc' := 20) rfl rfl rfl rfl ?_
  refine pm_H.go (pc' := 22) rfl rfl rfl rfl ?_
  refine pm_H.bricmp (b := false) (pc' := 25) rfl rfl (by decide) rfl rfl ?_
  refine pm_H.go (pc' := 27) rfl rfl rfl rfl ?_
  refine pm_H.go (pc' := 28) rfl rfl rfl rfl ?_
  refine pm_H.bricmp (b := false) (pc' := 31) rfl rfl (by decide) rfl rfl ?_
  refine pm_H.go (pc' := 32) rfl rfl rfl rfl ?_
  refine pm_H.go (pc' := 71) rfl rfl rfl rfl ?_
  refine pm_H.go (pc' := 73) rfl rfl rfl rfl ?_
  refine pm_H.go (pc' := 74) rfl rfl rfl rfl ?_
  refine pm_H.getf rfl rfl rfl g0 gt ?_
  refine pm_H.go (pc' := 78) rfl rfl rfl rfl ?_
  refine pm_H.getf rfl rfl rfl g0 gn ?_
  refine pm_H.go (pc' := 83) rfl rfl rfl rfl ?_
  refine pm_H.go (pc' := 84) (st' := [.int (nI n + nI 3), .ref 1132]) rfl rfl rfl rfl ?_
  refine pm_H.go (pc' := 86) rfl rfl rfl rfl ?_
  refine pm_H.go (pc' := 88) rfl rfl rfl rfl ?_
  refine pm_H.go (pc' := 90) rfl rfl rfl rfl ?_
  refine pm_H.go (pc' := 92) rfl rfl rfl rfl ?_
  refine pm_H.go (pc' := 93) rfl rfl rfl rfl ?_
  refine pm_H.go (pc' := 94) rfl rfl rfl rfl ?_
  refine pm_H.go (pc' := 95) rfl rfl rfl rfl ?_
  refine pm_H.go (pc' := 96) rfl rfl rfl rfl ?_
  refine pm_H.go (pc' := 97) rfl rfl rfl rfl ?_
  refine pm_H.go (pc' := 98) rfl rfl rfl rfl ?_
  refine pm_H.bast rfl rfl g1 rfl (pm_b_nk hn (by decide)) ?_
  refine pm_H.go (pc' := 102) (L' := [(6, .int 4), (7, .int a), (0, .ref 1131), (1, .int a), (2, .int b), (3, .int c), (4, .int e), (5, .int f)]) rfl rfl rfl rfl ?_
  refine pm_H.go (pc' := 18) rfl rfl rfl rfl ?_
  refine pm_set_gen (P := fun w2 => pm_H none d 308 18 _ [] w2 _) g1 (by decide) g0 ko z (fun w4 lg4 g0 g1 ko z => ?_)
  refine pm_H.go (pc' := 20) rfl rfl rfl rfl ?_
  refine pm_H.go (pc' := 22) rfl rfl rfl rfl ?_
  refine pm_H.bricmp (b := false) (pc' := 25) rfl rfl (by decide) rfl rfl ?_
  refine pm_H.go (pc' := 27) rfl rfl rfl rfl ?_
  refine pm_H.go (pc' := 28) rfl rfl rfl rfl ?_
  refine pm_H.bricmp (b := true) (pc' := 35) rfl rfl (by decide) rfl rfl ?_
  refine pm_H.go (pc' := 37) rfl rfl rfl rfl ?_
  refine pm_H.go (pc' := 39) rfl rfl rfl rfl ?_
  refine pm_H.bricmp (b := false) (pc' := 42) rfl rfl (by decide) rfl rfl ?_
  refine pm_H.go (pc' := 43) rfl rfl rfl rfl ?_
  refine pm_H.go (pc' := 71) rfl rfl rfl rfl ?_
  refine pm_H.go (pc' := 73) rfl rfl rfl rfl ?_
  refine pm_H.go (pc' := 74) rfl rfl rfl rfl ?_
  refine pm_H.getf rfl rfl rfl g0 gt ?_
  refine pm_H.go (pc' := 78) rfl rfl rfl rfl ?_
  refine pm_H.getf rfl rfl rfl g0 gn ?_
  refine pm_H.go (pc' := 83) rfl rfl rfl rfl ?_
  refine pm_H.go (pc' := 84) (st' := [.int (nI n + nI 4), .ref 1132]) rfl rfl rfl rfl ?_
  refine pm_H.go (pc' := 86) rfl rfl rfl rfl ?_
  refine pm_H.go (pc' := 88) rfl rfl rfl rfl ?_
  refine pm_H.go (pc' := 90) rfl rfl rfl rfl ?_
  refine pm_H.go (pc' := 92) rfl rfl rfl rfl ?_
  refine pm_H.go (pc' := 93) rfl rfl rfl rfl ?_
  refine pm_H.go (pc' := 94) rfl rfl rfl rfl ?_
  refine pm_H.go (pc' := 95) rfl rfl rfl rfl ?_
  refine pm_H.go (pc' := 96) rfl rfl rfl rfl ?_
  refine pm_H.go (pc' := 97) rfl rfl rfl rfl ?_
  refine pm_H.go (pc' := 98) rfl rfl rfl rfl ?_
  refine pm_H.bast rfl rfl g1 rfl (pm_b_nk hn (by decide)) ?_
  refine pm_H.go (pc' := 102) (L' := [(6, .int 5), (7, .int b), (0, .ref 1131), (1, .int a), (2, .int b), (3, .int c), (4, .int e), (5, .int f)]) rfl rfl rfl rfl ?_
  refine pm_H.go (pc' := 18) rfl rfl rfl rfl ?_
  refine pm_set_gen (P := fun w2 => pm_H none d 308 18 _ [] w2 _) g1 (by decide) g0 ko z (fun w5 lg5 g0 g1 ko z => ?_)
  refine pm_H.go (pc' := 20) rfl rfl rfl rfl ?_
  refine pm_H.go (pc' := 22) rfl rfl rfl rfl ?_
  refine pm_H.bricmp (b := false) (pc' := 25) rfl rfl (by decide) rfl rfl ?_
  refine pm_H.go (pc' := 27) rfl rfl rfl rfl ?_
  refine pm_H.go (pc' := 28) rfl rfl rfl rfl ?_
  refine pm_H.bricmp (b := true) (pc' := 35) rfl rfl (by decide) rfl rfl ?_
  refine pm_H.go (pc' := 37) rfl rfl rfl rfl ?_
  refine pm_H.go (pc' := 39) rfl rfl rfl rfl ?_
  refine pm_H.bricmp (b := false) (pc' := 42) rfl rfl (by decide) rfl rfl ?_
  refine pm_H.go (pc' := 43) rfl rfl rfl rfl ?_
  refine pm_H.go (pc' := 71) rfl rfl rfl rfl ?_
  refine pm_H.go (pc' := 73) rfl rfl rfl rfl ?_
  refine pm_H.go (pc' := 74) rfl rfl rfl rfl ?_
  refine pm_H.getf rfl rfl rfl g0 gt ?_
  refine pm_H.go (pc' := 78) rfl rfl rfl rfl ?_
  refine pm_H.getf rfl rfl rfl g0 gn ?_
  refine pm_H.go (pc' := 83) rfl rfl rfl rfl ?_
  refine pm_H.go (pc' := 84) (st' := [.int (nI n + nI 5), .ref 1132]) rfl rfl rfl rfl ?_
  refine pm_H.go (pc' := 86) rfl rfl rfl rfl ?_
  refine pm_H.go (pc' := 88) rfl rfl rfl rfl ?_
  refine pm_H.go (pc' := 90) rfl rfl rfl rfl ?_
  refine pm_H.go (pc' := 92) rfl rfl rfl rfl ?_
  refine pm_H.go (pc' := 93) rfl rfl rfl rfl ?_
  refine pm_H.go (pc' := 94) rfl rfl rfl rfl ?_
  refine pm_H.go (pc' := 95) rfl rfl rfl rfl ?_
  refine pm_H.go (pc' := 96) rfl rfl rfl rfl ?_
  refine pm_H.go (pc' := 97) rfl rfl rfl rfl ?_
  refine pm_H.go (pc' := 98) rfl rfl rfl rfl ?_
  refine pm_H.bast rfl rfl g1 rfl (pm_b_nk hn (by decide)) ?_
  refine pm_H.go (pc' := 102) (L' := [(6, .int 6), (7, .int b), (0, .ref 1131), (1, .int a), (2, .int b), (3, .int c), (4, .int e), (5, .int f)]) rfl rfl rfl rfl ?_
  refine pm_H.go (pc' := 18) rfl rfl rfl rfl ?_
  refine pm_set_gen (P := fun w2 => pm_H none d 308 18 _ [] w2 _) g1 (by decide) g0 ko z (fun w6 lg6 g0 g1 ko z => ?_)
  refine pm_H.go (pc' := 20) rfl rfl rfl rfl ?_
  refine pm_H.go (pc' := 22) rfl rfl rfl rfl ?_
  refine pm_H.bricmp (b := false) (pc' := 25) rfl rfl (by decide) rfl rfl ?_
  refine pm_H.go (pc' := 27) rfl rfl rfl rfl ?_
  refine pm_H.go (pc' := 28) rfl rfl rfl rfl ?_
  refine pm_H.bricmp (b := true) (pc' := 35) rfl rfl (by decide) rfl rfl ?_
  refine pm_H.go (pc' := 37) rfl rfl rfl rfl ?_
  refine pm_H.go (pc' := 39) rfl rfl rfl rfl ?_
  refine pm_H.bricmp (b := false) (pc' := 42) rfl rfl (by decide) rfl rfl ?_
  refine pm_H.go (pc' := 43) rfl rfl rfl rfl ?_
  refine pm_H.go (pc' := 71) rfl rfl rfl rfl ?_
  refine pm_H.go (pc' := 73) rfl rfl rfl rfl ?_
  refine pm_H.go (pc' := 74) rfl rfl rfl rfl ?_
  refine pm_H.getf rfl rfl rfl g0 gt ?_
  refine pm_H.go (pc' := 78) rfl rfl rfl rfl ?_
  refine pm_H.getf rfl rfl rfl g0 gn ?_
  refine pm_H.go (pc' := 83) rfl rfl rfl rfl ?_
  refine pm_H.go (pc' := 84) (st' := [.int (nI n + nI 6), .ref 1132]) rfl rfl rfl rfl ?_
  refine pm_H.go (pc' := 86) rfl rfl rfl rfl ?_
  refine pm_H.go (pc' := 88) rfl rfl rfl rfl ?_
  refine pm_H.go (pc' := 90) rfl rfl rfl rfl ?_
  refine pm_H.go (pc' := 92) rfl rfl rfl rfl ?_
  refine pm_H.go (pc' := 93) rfl rfl rfl rfl ?_
  refine pm_H.go (pc' := 94) rfl rfl rfl rfl ?_
  refine pm_H.go (pc' := 95) rfl rfl rfl rfl ?_
  refine pm_H.go (pc' := 96) rfl rfl rfl rfl ?_
  refine pm_H.go (pc' := 97) rfl rfl rfl rfl ?_
  refine pm_H.go (pc' := 98) rfl rfl rfl rfl ?_
  refine pm_H.bast rfl rfl g1 rfl (pm_b_nk hn (by decide)) ?_
  refine pm_H.go (pc' := 102) (L' := [(6, .int 7), (7, .int b), (0, .ref 1131), (1, .int a), (2, .int b), (3, .int c), (4, .int e), (5, .int f)]) rfl rfl rfl rfl ?_
  refine pm_H.go (pc' := 18) rfl rfl rfl rfl ?_
  refine pm_set_gen (P := fun w2 => pm_H none d 308 18 _ [] w2 _) g1 (by decide) g0 ko z (fun w7 lg7 g0 g1 ko z => ?_)
  refine pm_H.go (pc' := 20) rfl rfl rfl rfl ?_
  refine pm_H.go (pc' := 22) rfl rfl rfl rfl ?_
  refine pm_H.bricmp (b := false) (pc' := 25) rfl rfl (by decide) rfl rfl ?_
  refine pm_H.go (pc' := 27) rfl rfl rfl rfl ?_
  refine pm_H.go (pc' := 28) rfl rfl rfl rfl ?_
  refine pm_H.bricmp (b := true) (pc' := 35) rfl rfl (by decide) rfl rfl ?_
  refine pm_H.go (pc' := 37) rfl rfl rfl rfl ?_
  refine pm_H.go (pc' := 39) rfl rfl rfl rfl ?_
  refine pm_H.bricmp (b := false) (pc' := 42) rfl rfl (by decide) rfl rfl ?_
  refine pm_H.go (pc' := 43) rfl rfl rfl rfl ?_
  refine pm_H.go (pc' := 71) rfl rfl rfl rfl ?_
  refine pm_H.go (pc' := 73) rfl rfl rfl rfl ?_
  refine pm_H.go (pc' := 74) rfl rfl rfl rfl ?_
  refine pm_H.getf rfl rfl rfl g0 gt ?_
  refine pm_H.go (pc' := 78) rfl rfl rfl rfl ?_
  refine pm_H.getf rfl rfl rfl g0 gn ?_
  refine pm_H.go (pc' := 83) rfl rfl rfl rfl ?_
  refine pm_H.go (pc' := 84) (st' := [.int (nI n + nI 7), .ref 1132]) rfl rfl rfl rfl ?_
  refine pm_H.go (pc' := 86) rfl rfl rfl rfl ?_
  refine pm_H.go (pc' := 88) rfl rfl rfl rfl ?_
  refine pm_H.go (pc' := 90) rfl rfl rfl rfl ?_
  refine pm_H.go (pc' := 92) rfl rfl rfl rfl ?_
  refine pm_H.go (pc' := 93) rfl rfl rfl rfl ?_
  refine pm_H.go (pc' := 94) rfl rfl rfl rfl ?_
  refine pm_H.go (pc' := 95) rfl rfl rfl rfl ?_
  refine pm_H.go (pc' := 96) rfl rfl rfl rfl ?_
  refine pm_H.go (pc' := 97) rfl rfl rfl rfl ?_
  refine pm_H.go (pc' := 98) rfl rfl rfl rfl ?_
  refine pm_H.bast rfl rfl g1 rfl (pm_b_nk hn (by decide)) ?_
  refine pm_H.go (pc' := 102) (L' := [(6, .int 8), (7, .int b), (0, .ref 1131), (1, .int a), (2, .int b), (3, .int c), (4, .int e), (5, .int f)]) rfl rfl rfl rfl ?_
  refine pm_H.go (pc' := 18) rfl rfl rfl rfl ?_
  refine pm_set_gen (P := fun w2 => pm_H none d 308 18 _ [] w2 _) g1 (by decide) g0 ko z (fun w8 lg8 g0 g1 ko z => ?_)
  refine pm_H.go (pc' := 20) rfl rfl rfl rfl ?_
  refine pm_H.go (pc' := 22) rfl rfl rfl rfl ?_
  refine pm_H.bricmp (b := false) (pc' := 25) rfl rfl (by decide) rfl rfl ?_
  refine pm_H.go (pc' := 27) rfl rfl rfl rfl ?_
  refine pm_H.go (pc' := 28) rfl rfl rfl rfl ?_
  refine pm_H.bricmp (b := true) (pc' := 35) rfl rfl (by decide) rfl rfl ?_
  refine pm_H.go (pc' := 37) rfl rfl rfl rfl ?_
  refine pm_H.go (pc' := 39) rfl rfl rfl rfl ?_
  refine pm_H.bricmp (b := true) (pc' := 46) rfl rfl (by decide) rfl rfl ?_
  refine pm_H.go (pc' := 48) rfl rfl rfl rfl ?_
  refine pm_H.go (pc' := 50) rfl rfl rfl rfl ?_
  refine pm_H.bricmp (b := false) (pc' := 53) rfl rfl (by decide) rfl rfl ?_
  refine pm_H.go (pc' := 54) rfl rfl rfl rfl ?_
  refine pm_H.go (pc' := 71) rfl rfl rfl rfl ?_
  refine pm_H.go (pc' := 73) rfl rfl rfl rfl ?_
  refine pm_H.go (pc' := 74) rfl rfl rfl rfl ?_
  refine pm_H.getf rfl rfl rfl g0 gt ?_
  refine pm_H.go (pc' := 78) rfl rfl rfl rfl ?_
  refine pm_H.getf rfl rfl rfl g0 gn ?_
  refine pm_H.go (pc' := 83) rfl rfl rfl rfl ?_
  refine pm_H.go (pc' := 84) (st' := [.int (nI n + nI 8), .ref 1132]) rfl rfl rfl rfl ?_
  refine pm_H.go (pc' := 86) rfl rfl rfl rfl ?_
  refine pm_H.go (pc' := 88) rfl rfl rfl rfl ?_
  refine pm_H.go (pc' := 90) rfl rfl rfl rfl ?_
  refine pm_H.go (pc' := 92) rfl rfl rfl rfl ?_
  refine pm_H.go (pc' := 93) rfl rfl rfl rfl ?_
  refine pm_H.go (pc' := 94) rfl rfl rfl rfl ?_
  refine pm_H.go (pc' := 95) rfl rfl rfl rfl ?_
  refine pm_H.go (pc' := 96) rfl rfl rfl rfl ?_
  refine pm_H.go (pc' := 97) rfl rfl rfl rfl ?_
  refine pm_H.go (pc' := 98) rfl rfl rfl rfl ?_
  refine pm_H.bast rfl rfl g1 rfl (pm_b_nk hn (by decide)) ?_
  refine pm_H.go (pc' := 102) (L' := [(6, .int 9), (7, .int c), (0, .ref 1131), (1, .int a), (2, .int b), (3, .int c), (4, .int e), (5, .int f)]) rfl rfl rfl rfl ?_
  refine pm_H.go (pc' := 18) rfl rfl rfl rfl ?_
  refine pm_set_gen (P := fun w2 => pm_H none d 308 18 _ [] w2 _) g1 (by decide) g0 ko z (fun w9 lg9 g0 g1 ko z => ?_)
  refine pm_H.go (pc' := 20) rfl rfl rfl rfl ?_
  refine pm_H.go (pc' := 22) rfl rfl rfl rfl ?_
  refine pm_H.bricmp (b := false) (pc' := 25) rfl rfl (by decide) rfl rfl ?_
  refine pm_H.go (pc' := 27) rfl rfl rfl rfl ?_
  refine pm_H.go (pc' := 28) rfl rfl rfl rfl ?_
  refine pm_H.bricmp (b := true) (pc' := 35) rfl rfl (by decide) rfl rfl ?_
  refine pm_H.go (pc' := 37) rfl rfl rfl rfl ?_
  refine pm_H.go (pc' := 39) rfl rfl rfl rfl ?_
  refine pm_H.bricmp (b := true) (pc' := 46) rfl rfl (by decide) rfl rfl ?_
  refine pm_H.go (pc' := 48) rfl rfl rfl rfl ?_
  refine pm_H.go (pc' := 50) rfl rfl rfl rfl ?_
  refine pm_H.bricmp (b := false) (pc' := 53) rfl rfl (by decide) rfl rfl ?_
  refine pm_H.go (pc' := 54) rfl rfl rfl rfl ?_
  refine pm_H.go (pc' := 71) rfl rfl rfl rfl ?_
  refine pm_H.go (pc' := 73) rfl rfl rfl rfl ?_
  refine pm_H.go (pc' := 74) rfl rfl rfl rfl ?_
  refine pm_H.getf rfl rfl rfl g0 gt ?_
  refine pm_H.go (pc' := 78) rfl rfl rfl rfl ?_
  refine pm_H.getf rfl rfl rfl g0 gn ?_
  refine pm_H.go (pc' := 83) rfl rfl rfl rfl ?_
  refine pm_H.go (pc' := 84) (st' := [.int (nI n + nI 9), .ref 1132]) rfl rfl rfl rfl ?_
  refine pm_H.go (pc' := 86) rfl rfl rfl rfl ?_
  refine pm_H.go (pc' := 88) rfl rfl rfl rfl ?_
  refine pm_H.go (pc' := 90) rfl rfl rfl rfl ?_
  refine pm_H.go (pc' := 92) rfl rfl rfl rfl ?_
  refine pm_H.go (pc' := 93) rfl rfl rfl rfl ?_
  refine pm_H.go (pc' := 94) rfl rfl rfl rfl ?_
  refine pm_H.go (pc' := 95) rfl rfl rfl rfl ?_
  refine pm_H.go (pc' := 96) rfl rfl rfl rfl ?_
  refine pm_H.go (pc' := 97) rfl rfl rfl rfl ?_
  refine pm_H.go (pc' := 98) rfl rfl rfl rfl ?_
  refine pm_H.bast rfl rfl g1 rfl (pm_b_nk hn (by decide)) ?_
  refine pm_H.go (pc' := 102) (L' := [(6, .int 10), (7, .int c), (0, .ref 1131), (1, .int a), (2, .int b), (3, .int c), (4, .int e), (5, .int f)]) rfl rfl rfl rfl ?_
  refine pm_H.go (pc' := 18) rfl rfl rfl rfl ?_
  refine pm_set_gen (P := fun w2 => pm_H none d 308 18 _ [] w2 _) g1 (by decide) g0 ko z (fun w10 lg10 g0 g1 ko z => ?_)
  refine pm_H.go (pc' := 20) rfl rfl rfl rfl ?_
  refine pm_H.go (pc' := 22) rfl rfl rfl rfl ?_
  refine pm_H.bricmp (b := false) (pc' := 25) rfl rfl (by decide) rfl rfl ?_
  refine pm_H.go (pc' := 27) rfl rfl rfl rfl ?_
  refine pm_H.go (pc' := 28) rfl rfl rfl rfl ?_
  refine pm_H.bricmp (b := true) (pc' := 35) rfl rfl (by decide) rfl rfl ?_
  refine pm_H.go (pc' := 37) rfl rfl rfl rfl ?_
  refine pm_H.go (pc' := 39) rfl rfl rfl rfl ?_
  refine pm_H.bricmp (b := true) (pc' := 46) rfl rfl (by decide) rfl rfl ?_
  refine pm_H.go (pc' := 48) rfl rfl rfl rfl ?_
  refine pm_H.go (pc' := 50) rfl rfl rfl rfl ?_
  refine pm_H.bricmp (b := false) (pc' := 53) rfl rfl (by decide) rfl rfl ?_
  refine pm_H.go (pc' := 54) rfl rfl rfl rfl ?_
  refine pm_H.go (pc' := 71) rfl rfl rfl rfl ?_
  refine pm_H.go (pc' := 73) rfl rfl rfl rfl ?_
  refine pm_H.go (pc' := 74) rfl rfl rfl rfl ?_
  refine pm_H.getf rfl rfl rfl g0 gt ?_
  refine pm_H.go (pc' := 78) rfl rfl rfl rfl ?_
  refine pm_H.getf rfl rfl rfl g0 gn ?_
  refine pm_H.go (pc' := 83) rfl rfl rfl rfl ?_
  refine pm_H.go (pc' := 84) (st' := [.int (nI n + nI 10), .ref 1132]) rfl rfl rfl rfl ?_
  refine pm_H.go (pc' := 86) rfl rfl rfl rfl ?_
  refine pm_H.go (pc' := 88) rfl rfl rfl rfl ?_
  refine pm_H.go (pc' := 90) rfl rfl rfl rfl ?_
  refine pm_H.go (pc' := 92) rfl rfl rfl rfl ?_
  refine pm_H.go (pc' := 93) rfl rfl rfl rfl ?_
  refine pm_H.go (pc' := 94) rfl rfl rfl rfl ?_
  refine pm_H.go (pc' := 95) rfl rfl rfl rfl ?_
  refine pm_H.go (pc' := 96) rfl rfl rfl rfl ?_
  refine pm_H.go (pc' := 97) rfl rfl rfl rfl ?_
  refine pm_H.go (pc' := 98) rfl rfl rfl rfl ?_
  refine pm_H.bast rfl rfl g1 rfl (pm_b_nk hn (by decide)) ?_
  refine pm_H.go (pc' := 102) (L' := [(6, .int 11), (7, .int c), (0, .ref 1131), (1, .int a), (2, .int b), (3, .int c), (4, .int e), (5, .int f)]) rfl rfl rfl rfl ?_
  refine pm_H.go (pc' := 18) rfl rfl rfl rfl ?_
  refine pm_set_gen (P := fun w2 => pm_H none d 308 18 _ [] w2 _) g1 (by decide) g0 ko z (fun w11 lg11 g0 g1 ko z => ?_)
  refine pm_H.go (pc' := 20) rfl rfl rfl rfl ?_
  refine pm_H.go (pc' := 22) rfl rfl rfl rfl ?_
  refine pm_H.bricmp (b := false) (pc' := 25) rfl rfl (by decide) rfl rfl ?_
  refine pm_H.go (pc' := 27) rfl rfl rfl rfl ?_
  refine pm_H.go (pc' := 28) rfl rfl rfl rfl ?_
  refine pm_H.bricmp (b := true) (pc' := 35) rfl rfl (by decide) rfl rfl ?_
  refine pm_H.go (pc' := 37) rfl rfl rfl rfl ?_
  refine pm_H.go (pc' := 39) rfl rfl rfl rfl ?_
  refine pm_H.bricmp (b := true) (pc' := 46) rfl rfl (by decide) rfl rfl ?_
  refine pm_H.go (pc' := 48) rfl rfl rfl rfl ?_
  refine pm_H.go (pc' := 50) rfl rfl rfl rfl ?_
  refine pm_H.bricmp (b := false) (pc' := 53) rfl rfl (by decide) rfl rfl ?_
  refine pm_H.go (pc' := 54) rfl rfl rfl rfl ?_
  refine pm_H.go (pc' := 71) rfl rfl rfl rfl ?_
  refine pm_H.go (pc' := 73) rfl rfl rfl rfl ?_
  refine pm_H.go (pc' := 74) rfl rfl rfl rfl ?_
  refine pm_H.getf rfl rfl rfl g0 gt ?_
  refine pm_H.go (pc' := 78) rfl rfl rfl rfl ?_
  refine pm_H.getf rfl rfl rfl g0 gn ?_
  refine pm_H.go (pc' := 83) rfl rfl rfl rfl ?_
  refine pm_H.go (pc' := 84) (st' := [.int (nI n + nI 11), .ref 1132]) rfl rfl rfl rfl ?_
  refine pm_H.go (pc' := 86) rfl rfl rfl rfl ?_
  refine pm_H.go (pc' := 88) rfl rfl rfl rfl ?_
  refine pm_H.go (pc' := 90) rfl rfl rfl rfl ?_
  refine pm_H.go (pc' := 92) rfl rfl rfl rfl ?_
  refine pm_H.go (pc' := 93) rfl rfl rfl rfl ?_
  refine pm_H.go (pc' := 94) rfl rfl rfl rfl ?_
  refine pm_H.go (pc' := 95) rfl rfl rfl rfl ?_
  refine pm_H.go (pc' := 96) rfl rfl rfl rfl ?_
  refine pm_H.go (pc' := 97) rfl rfl rfl rfl ?_
  refine pm_H.go (pc' := 98) rfl rfl rfl rfl ?_
  refine pm_H.bast rfl rfl g1 rfl (pm_b_nk hn (by decide)) ?_
  refine pm_H.go (pc' := 102) (L' := [(6, .int 12), (7, .int c), (0, .ref 1131), (1, .int a), (2, .int b), (3, .int c), (4, .int e), (5, .int f)]) rfl rfl rfl rfl ?_
  refine pm_H.go (pc' := 18) rfl rfl rfl rfl ?_
  refine pm_set_gen (P := fun w2 => pm_H none d 308 18 _ [] w2 _) g1 (by decide) g0 ko z (fun w12 lg12 g0 g1 ko z => ?_)
  refine pm_H.go (pc' := 20) rfl rfl rfl rfl ?_
  refine pm_H.go (pc' := 22) rfl rfl rfl rfl ?_
  refine pm_H.bricmp (b := false) (pc' := 25) rfl rfl (by decide) rfl rfl ?_
  refine pm_H.go (pc' := 27) rfl rfl rfl rfl ?_
  refine pm_H.go (pc' := 28) rfl rfl rfl rfl ?_
  refine pm_H.bricmp (b := true) (pc' := 35) rfl rfl (by decide) rfl rfl ?_
  refine pm_H.go (pc' := 37) rfl rfl rfl rfl ?_
  refine pm_H.go (pc' := 39) rfl rfl rfl rfl ?_
  refine pm_H.bricmp (b := true) (pc' := 46) rfl rfl (by decide) rfl rfl ?_
  refine pm_H.go (pc' := 48) rfl rfl rfl rfl ?_
  refine pm_H.go (pc' := 50) rfl rfl rfl rfl ?_
  refine pm_H.bricmp (b := true) (pc' := 57) rfl rfl (by decide) rfl rfl ?_
  refine pm_H.go (pc' := 59) rfl rfl rfl rfl ?_
  refine pm_H.go (pc' := 61) rfl rfl rfl rfl ?_
  refine pm_H.bricmp (b := false) (pc' := 64) rfl rfl (by decide) rfl rfl ?_
  refine pm_H.go (pc' := 66) rfl rfl rfl rfl ?_
  refine pm_H.go (pc' := 71) rfl rfl rfl rfl ?_
  refine pm_H.go (pc' := 73) rfl rfl rfl rfl ?_
  refine pm_H.go (pc' := 74) rfl rfl rfl rfl ?_
  refine pm_H.getf rfl rfl rfl g0 gt ?_
  refine pm_H.go (pc' := 78) rfl rfl rfl rfl ?_
  refine pm_H.getf rfl rfl rfl g0 gn ?_
  refine pm_H.go (pc' := 83) rfl rfl rfl rfl ?_
  refine pm_H.go (pc' := 84) (st' := [.int (nI n + nI 12), .ref 1132]) rfl rfl rfl rfl ?_
  refine pm_H.go (pc' := 86) rfl rfl rfl rfl ?_
  refine pm_H.go (pc' := 88) rfl rfl rfl rfl ?_
  refine pm_H.go (pc' := 90) rfl rfl rfl rfl ?_
  refine pm_H.go (pc' := 92) rfl rfl rfl rfl ?_
  refine pm_H.go (pc' := 93) rfl rfl rfl rfl ?_
  refine pm_H.go (pc' := 94) rfl rfl rfl rfl ?_
  refine pm_H.go (pc' := 95) rfl rfl rfl rfl ?_
  refine pm_H.go (pc' := 96) rfl rfl rfl rfl ?_
  refine pm_H.go (pc' := 97) rfl rfl rfl rfl ?_
  refine pm_H.go (pc' := 98) rfl rfl rfl rfl ?_
  refine pm_H.bast rfl rfl g1 rfl (pm_b_nk hn (by decide)) ?_
  refine pm_H.go (pc' := 102) (L' := [(6, .int 13), (7, .int e), (0, .ref 1131), (1, .int a), (2, .int b), (3, .int c), (4, .int e), (5, .int f)]) rfl rfl rfl rfl ?_
  refine pm_H.go (pc' := 18) rfl rfl rfl rfl ?_
  refine pm_set_gen (P := fun w2 => pm_H none d 308 18 _ [] w2 _) g1 (by decide) g0 ko z (fun w13 lg13 g0 g1 ko z => ?_)
  refine pm_H.go (pc' := 20) rfl rfl rfl rfl ?_
  refine pm_H.go (pc' := 22) rfl rfl rfl rfl ?_
  refine pm_H.bricmp (b := false) (pc' := 25) rfl rfl (by decide) rfl rfl ?_
  refine pm_H.go (pc' := 27) rfl rfl rfl rfl ?_
  refine pm_H.go (pc' := 28) rfl rfl rfl rfl ?_
  refine pm_H.bricmp (b := true) (pc' := 35) rfl rfl (by decide) rfl rfl ?_
  refine pm_H.go (pc' := 37) rfl rfl rfl rfl ?_
  refine pm_H.go (pc' := 39) rfl rfl rfl rfl ?_
  refine pm_H.bricmp (b := true) (pc' := 46) rfl rfl (by decide) rfl rfl ?_
  refine pm_H.go (pc' := 48) rfl rfl rfl rfl ?_
  refine pm_H.go (pc' := 50) rfl rfl rfl rfl ?_
  refine pm_H.bricmp (b := true) (pc' := 57) rfl rfl (by decide) rfl rfl ?_
  refine pm_H.go (pc' := 59) rfl rfl rfl rfl ?_
  refine pm_H.go (pc' := 61) rfl rfl rfl rfl ?_
  refine pm_H.bricmp (b := false) (pc' := 64) rfl rfl (by decide) rfl rfl ?_
  refine pm_H.go (pc' := 66) rfl rfl rfl rfl ?_
  refine pm_H.go (pc' := 71) rfl rfl rfl rfl ?_
  refine pm_H.go (pc' := 73) rfl rfl rfl rfl ?_
  refine pm_H.go (pc' := 74) rfl rfl rfl rfl ?_
  refine pm_H.getf rfl rfl rfl g0 gt ?_
  refine pm_H.go (pc' := 78) rfl rfl rfl rfl ?_
  refine pm_H.getf rfl rfl rfl g0 gn ?_
  refine pm_H.go (pc' := 83) rfl rfl rfl rfl ?_
  refine pm_H.go (pc' := 84) (st' := [.int (nI n + nI 13), .ref 1132]) rfl rfl rfl rfl ?_
  refine pm_H.go (pc' := 86) rfl rfl rfl rfl ?_
  refine pm_H.go (pc' := 88) rfl rfl rfl rfl ?_
  refine pm_H.go (pc' := 90) rfl rfl rfl rfl ?_
  refine pm_H.go (pc' := 92) rfl rfl rfl rfl ?_
  refine pm_H.go (pc' := 93) rfl rfl rfl rfl ?_
  refine pm_H.go (pc' := 94) rfl rfl rfl rfl ?_
  refine pm_H.go (pc' := 95) rfl rfl rfl rfl ?_
  refine pm_H.go (pc' := 96) rfl rfl rfl rfl ?_
  refine pm_H.go (pc' := 97) rfl rfl rfl rfl ?_
  refine pm_H.go (pc' := 98) rfl rfl rfl rfl ?_
  refine pm_H.bast rfl rfl g1 rfl (pm_b_nk hn (by decide)) ?_
  refine pm_H.go (pc' := 102) (L' := [(6, .int 14), (7, .int e), (0, .ref 1131), (1, .int a), (2, .int b), (3, .int c), (4, .int e), (5, .int f)]) rfl rfl rfl rfl ?_
  refine pm_H.go (pc' := 18) rfl rfl rfl rfl ?_
  refine pm_set_gen (P := fun w2 => pm_H none d 308 18 _ [] w2 _) g1 (by decide) g0 ko z (fun w14 lg14 g0 g1 ko z => ?_)
  refine pm_H.go (pc' := 20) rfl rfl rfl rfl ?_
  refine pm_H.go (pc' := 22) rfl rfl rfl rfl ?_
  refine pm_H.bricmp (b := false) (pc' := 25) rfl rfl (by decide) rfl rfl ?_
  refine pm_H.go (pc' := 27) rfl rfl rfl rfl ?_
  refine pm_H.go (pc' := 28) rfl rfl rfl rfl ?_
  refine pm_H.bricmp (b := true) (pc' := 35) rfl rfl (by decide) rfl rfl ?_
  refine pm_H.go (pc' := 37) rfl rfl rfl rfl ?_
  refine pm_H.go (pc' := 39) rfl rfl rfl rfl ?_
  refine pm_H.bricmp (b := true) (pc' := 46) rfl rfl (by decide) rfl rfl ?_
  refine pm_H.go (pc' := 48) rfl rfl rfl rfl ?_
  refine pm_H.go (pc' := 50) rfl rfl rfl rfl ?_
  refine pm_H.bricmp (b := true) (pc' := 57) rfl rfl (by decide) rfl rfl ?_
  refine pm_H.go (pc' := 59) rfl rfl rfl rfl ?_
  refine pm_H.go (pc' := 61) rfl rfl rfl rfl ?_
  refine pm_H.bricmp (b := false) (pc' := 64) rfl rfl (by decide) rfl rfl ?_
  refine pm_H.go (pc' := 66) rfl rfl rfl rfl ?_
  refine pm_H.go (pc' := 71) rfl rfl rfl rfl ?_
  refine pm_H.go (pc' := 73) rfl rfl rfl rfl ?_
  refine pm_H.go (pc' := 74) rfl rfl rfl rfl ?_
  refine pm_H.getf rfl rfl rfl g0 gt ?_
  refine pm_H.go (pc' := 78) rfl rfl rfl rfl ?_
  refine pm_H.getf rfl rfl rfl g0 gn ?_
  refine pm_H.go (pc' := 83) rfl rfl rfl rfl ?_
  refine pm_H.go (pc' := 84) (st' := [.int (nI n + nI 14), .ref 1132]) rfl rfl rfl rfl ?_
  refine pm_H.go (pc' := 86) rfl rfl rfl rfl ?_
  refine pm_H.go (pc' := 88) rfl rfl rfl rfl ?_
  refine pm_H.go (pc' := 90) rfl rfl rfl rfl ?_
  refine pm_H.go (pc' := 92) rfl rfl rfl rfl ?_
  refine pm_H.go (pc' := 93) rfl rfl rfl rfl ?_
  refine pm_H.go (pc' := 94) rfl rfl rfl rfl ?_
  refine pm_H.go (pc' := 95) rfl rfl rfl rfl ?_
  refine pm_H.go (pc' := 96) rfl rfl rfl rfl ?_
  refine pm_H.go (pc' := 97) rfl rfl rfl rfl ?_
  refine pm_H.go (pc' := 98) rfl rfl rfl rfl ?_
  refine pm_H.bast rfl rfl g1 rfl (pm_b_nk hn (by decide)) ?_
  refine pm_H.go (pc' := 102) (L' := [(6, .int 15), (7, .int e), (0, .ref 1131), (1, .int a), (2, .int b), (3, .int c), (4, .int e), (5, .int f)]) rfl rfl rfl rfl ?_
  refine pm_H.go (pc' := 18) rfl rfl rfl rfl ?_
  refine pm_set_gen (P := fun w2 => pm_H none d 308 18 _ [] w2 _) g1 (by decide) g0 ko z (fun w15 lg15 g0 g1 ko z => ?_)
  refine pm_H.go (pc' := 20) rfl rfl rfl rfl ?_
  refine pm_H.go (pc' := 22) rfl rfl rfl rfl ?_
  refine pm_H.bricmp (b := false) (pc' := 25) rfl rfl (by decide) rfl rfl ?_
  refine pm_H.go (pc' := 27) rfl rfl rfl rfl ?_
  refine pm_H.go (pc' := 28) rfl rfl rfl rfl ?_
  refine pm_H.bricmp (b := true) (pc' := 35) rfl rfl (by decide) rfl rfl ?_
  refine pm_H.go (pc' := 37) rfl rfl rfl rfl ?_
  refine pm_H.go (pc' := 39) rfl rfl rfl rfl ?_
  refine pm_H.bricmp (b := true) (pc' := 46) rfl rfl (by decide) rfl rfl ?_
  refine pm_H.go (pc' := 48) rfl rfl rfl rfl ?_
  refine pm_H.go (pc' := 50) rfl rfl rfl rfl ?_
  refine pm_H.bricmp (b := true) (pc' := 57) rfl rfl (by decide) rfl rfl ?_
  refine pm_H.go (pc' := 59) rfl rfl rfl rfl ?_
  refine pm_H.go (pc' := 61) rfl rfl rfl rfl ?_
  refine pm_H.bricmp (b := false) (pc' := 64) rfl rfl (by decide) rfl rfl ?_
  refine pm_H.go (pc' := 66) rfl rfl rfl rfl ?_
  refine pm_H.go (pc' := 71) rfl rfl rfl rfl ?_
  refine pm_H.go (pc' := 73) rfl rfl rfl rfl ?_
  refine pm_H.go (pc' := 74) rfl rfl rfl rfl ?_
  refine pm_H.getf rfl rfl rfl g0 gt ?_
  refine pm_H.go (pc' := 78) rfl rfl rfl rfl ?_
  refine pm_H.getf rfl rfl rfl g0 gn ?_
  refine pm_H.go (pc' := 83) rfl rfl rfl rfl ?_
  refine pm_H.go (pc' := 84) (st' := [.int (nI n + nI 15), .ref 1132]) rfl rfl rfl rfl ?_
  refine pm_H.go (pc' := 86) rfl rfl rfl rfl ?_
  refine pm_H.go (pc' := 88) rfl rfl rfl rfl ?_
  refine pm_H.go (pc' := 90) rfl rfl rfl rfl ?_
  refine pm_H.go (pc' := 92) rfl rfl rfl rfl ?_
  refine pm_H.go (pc' := 93) rfl rfl rfl rfl ?_
  refine pm_H.go (pc' := 94) rfl rfl rfl rfl ?_
  refine pm_H.go (pc' := 95) rfl rfl rfl rfl ?_
  refine pm_H.go (pc' := 96) rfl rfl rfl rfl ?_
  refine pm_H.go (pc' := 97) rfl rfl rfl rfl ?_
  refine pm_H.go (pc' := 98) rfl rfl rfl rfl ?_
  refine pm_H.bast rfl rfl g1 rfl (pm_b_nk hn (by decide)) ?_
  refine pm_H.go (pc' := 102) (L' := [(6, .int 16), (7, .int e), (0, .ref 1131), (1, .int a), (2, .int b), (3, .int c), (4, .int e), (5, .int f)]) rfl rfl rfl rfl ?_
  refine pm_H.go (pc' := 18) rfl rfl rfl rfl ?_
  refine pm_set_gen (P := fun w2 => pm_H none d 308 18 _ [] w2 _) g1 (by decide) g0 ko z (fun w16 lg16 g0 g1 ko z => ?_)
  refine pm_H.go (pc' := 20) rfl rfl rfl rfl ?_
  refine pm_H.go (pc' := 22) rfl rfl rfl rfl ?_
  refine pm_H.bricmp (b := false) (pc' := 25) rfl rfl (by decide) rfl rfl ?_
  refine pm_H.go (pc' := 27) rfl rfl rfl rfl ?_
  refine pm_H.go (pc' := 28) rfl rfl rfl rfl ?_
  refine pm_H.bricmp (b := true) (pc' := 35) rfl rfl (by decide) rfl rfl ?_
  refine pm_H.go (pc' := 37) rfl rfl rfl rfl ?_
  refine pm_H.go (pc' := 39) rfl rfl rfl rfl ?_
  refine pm_H.bricmp (b := true) (pc' := 46) rfl rfl (by decide) rfl rfl ?_
  refine pm_H.go (pc' := 48) rfl rfl rfl rfl ?_
  refine pm_H.go (pc' := 50) rfl rfl rfl rfl ?_
  refine pm_H.bricmp (b := true) (pc' := 57) rfl rfl (by decide) rfl rfl ?_
  refine pm_H.go (pc' := 59) rfl rfl rfl rfl ?_
  refine pm_H.go (pc' := 61) rfl rfl rfl rfl ?_
  refine pm_H.bricmp (b := true) (pc' := 69) rfl rfl (by decide) rfl rfl ?_
  refine pm_H.go (pc' := 71) rfl rfl rfl rfl ?_
  refine pm_H.go (pc' := 73) rfl rfl rfl rfl ?_
  refine pm_H.go (pc' := 74) rfl rfl rfl rfl ?_
  refine pm_H.getf rfl rfl rfl g0 gt ?_
  refine pm_H.go (pc' := 78) rfl rfl rfl rfl ?_
  refine pm_H.getf rfl rfl rfl g0 gn ?_
  refine pm_H.go (pc' := 83) rfl rfl rfl rfl ?_
  refine pm_H.go (pc' := 84) (st' := [.int (nI n + nI 16), .ref 1132]) rfl rfl rfl rfl ?_
  refine pm_H.go (pc' := 86) rfl rfl rfl rfl ?_
  refine pm_H.go (pc' := 88) rfl rfl rfl rfl ?_
  refine pm_H.go (pc' := 90) rfl rfl rfl rfl ?_
  refine pm_H.go (pc' := 92) rfl rfl rfl rfl ?_
  refine pm_H.go (pc' := 93) rfl rfl rfl rfl ?_
  refine pm_H.go (pc' := 94) rfl rfl rfl rfl ?_
  refine pm_H.go (pc' := 95) rfl rfl rfl rfl ?_
  refine pm_H.go (pc' := 96) rfl rfl rfl rfl ?_
  refine pm_H.go (pc' := 97) rfl rfl rfl rfl ?_
  refine pm_H.go (pc' := 98) rfl rfl rfl rfl ?_
  refine pm_H.bast rfl rfl g1 rfl (pm_b_nk hn (by decide)) ?_
  refine pm_H.go (pc' := 102) (L' := [(6, .int 17), (7, .int f), (0, .ref 1131), (1, .int a), (2, .int b), (3, .int c), (4, .int e), (5, .int f)]) rfl rfl rfl rfl ?_
  refine pm_H.go (pc' := 18) rfl rfl rfl rfl ?_
  refine pm_set_gen (P := fun w2 => pm_H none d 308 18 _ [] w2 _) g1 (by decide) g0 ko z (fun w17 lg17 g0 g1 ko z => ?_)
  refine pm_H.go (pc' := 20) rfl rfl rfl rfl ?_
  refine pm_H.go (pc' := 22) rfl rfl rfl rfl ?_
  refine pm_H.bricmp (b := false) (pc' := 25) rfl rfl (by decide) rfl rfl ?_
  refine pm_H.go (pc' := 27) rfl rfl rfl rfl ?_
  refine pm_H.go (pc' := 28) rfl rfl rfl rfl ?_
  refine pm_H.bricmp (b := true) (pc' := 35) rfl rfl (by decide) rfl rfl ?_
  refine pm_H.go (pc' := 37) rfl rfl rfl rfl ?_
  refine pm_H.go (pc' := 39) rfl rfl rfl rfl ?_
  refine pm_H.bricmp (b := true) (pc' := 46) rfl rfl (by decide) rfl rfl ?_
  refine pm_H.go (pc' := 48) rfl rfl rfl rfl ?_
  refine pm_H.go (pc' := 50) rfl rfl rfl rfl ?_
  refine pm_H.bricmp (b := true) (pc' := 57) rfl rfl (by decide) rfl rfl ?_
  refine pm_H.go (pc' := 59) rfl rfl rfl rfl ?_
  refine pm_H.go (pc' := 61) rfl rfl rfl rfl ?_
  refine pm_H.bricmp (b := true) (pc' := 69) rfl rfl (by decide) rfl rfl ?_
  refine pm_H.go (pc' := 71) rfl rfl rfl rfl ?_
  refine pm_H.go (pc' := 73) rfl rfl rfl rfl ?_
  refine pm_H.go (pc' := 74) rfl rfl rfl rfl ?_
  refine pm_H.getf rfl rfl rfl g0 gt ?_
  refine pm_H.go (pc' := 78) rfl rfl rfl rfl ?_
  refine pm_H.getf rfl rfl rfl g0 gn ?_
  refine pm_H.go (pc' := 83) rfl rfl rfl rfl ?_
  refine pm_H.go (pc' := 84) (st' := [.int (nI n + nI 17), .ref 1132]) rfl rfl rfl rfl ?_
  refine pm_H.go (pc' := 86) rfl rfl rfl rfl ?_
  refine pm_H.go (pc' := 88) rfl rfl rfl rfl ?_
  refine pm_H.go (pc' := 90) rfl rfl rfl rfl ?_
  refine pm_H.go (pc' := 92) rfl rfl rfl rfl ?_
  refine pm_H.go (pc' := 93) rfl rfl rfl rfl ?_
  refine pm_H.go (pc' := 94) rfl rfl rfl rfl ?_
  refine pm_H.go (pc' := 95) rfl rfl rfl rfl ?_
  refine pm_H.go (pc' := 96) rfl rfl rfl rfl ?_
  refine pm_H.go (pc' := 97) rfl rfl rfl rfl ?_
  refine pm_H.go (pc' := 98) rfl rfl rfl rfl ?_
  refine pm_H.bast rfl rfl g1 rfl (pm_b_nk hn (by decide)) ?_
  refine pm_H.go (pc' := 102) (L' := [(6, .int 18), (7, .int f), (0, .ref 1131), (1, .int a), (2, .int b), (3, .int c), (4, .int e), (5, .int f)]) rfl rfl rfl rfl ?_
  refine pm_H.go (pc' := 18) rfl rfl rfl rfl ?_
  refine pm_set_gen (P := fun w2 => pm_H none d 308 18 _ [] w2 _) g1 (by decide) g0 ko z (fun w18 lg18 g0 g1 ko z => ?_)
  refine pm_H.go (pc' := 20) rfl rfl rfl rfl ?_
  refine pm_H.go (pc' := 22) rfl rfl rfl rfl ?_
  refine pm_H.bricmp (b := false) (pc' := 25) rfl rfl (by decide) rfl rfl ?_
  refine pm_H.go (pc' := 27) rfl rfl rfl rfl ?_
  refine pm_H.go (pc' := 28) rfl rfl rfl rfl ?_
  refine pm_H.bricmp (b := true) (pc' := 35) rfl rfl (by decide) rfl rfl ?_
  refine pm_H.go (pc' := 37) rfl rfl rfl rfl ?_
  refine pm_H.go (pc' := 39) rfl rfl rfl rfl ?_
  refine pm_H.bricmp (b := true) (pc' := 46) rfl rfl (by decide) rfl rfl ?_
  refine pm_H.go (pc' := 48) rfl rfl rfl rfl ?_
  refine pm_H.go (pc' := 50) rfl rfl rfl rfl ?_
  refine pm_H.bricmp (b := true) (pc' := 57) rfl rfl (by decide) rfl rfl ?_
  refine pm_H.go (pc' := 59) rfl rfl rfl rfl ?_
  refine pm_H.go (pc' := 61) rfl rfl rfl rfl ?_
  refine pm_H.bricmp (b := true) (pc' := 69) rfl rfl (by decide) rfl rfl ?_
  refine pm_H.go (pc' := 71) rfl rfl rfl rfl ?_
  refine pm_H.go (pc' := 73) rfl rfl rfl rfl ?_
  refine pm_H.go (pc' := 74) rfl rfl rfl rfl ?_
  refine pm_H.getf rfl rfl rfl g0 gt ?_
  refine pm_H.go (pc' := 78) rfl rfl rfl rfl ?_
  refine pm_H.getf rfl rfl rfl g0 gn ?_
  refine pm_H.go (pc' := 83) rfl rfl rfl rfl ?_
  refine pm_H.go (pc' := 84) (st' := [.int (nI n + nI 18), .ref 1132]) rfl rfl rfl rfl ?_
  refine pm_H.go (pc' := 86) rfl rfl rfl rfl ?_
  refine pm_H.go (pc' := 88) rfl rfl rfl rfl ?_
  refine pm_H.go (pc' := 90) rfl rfl rfl rfl ?_
  refine pm_H.go (pc' := 92) rfl rfl rfl rfl ?_
  refine pm_H.go (pc' := 93) rfl rfl rfl rfl ?_
  refine pm_H.go (pc' := 94) rfl rfl rfl rfl ?_
  refine pm_H.go (pc' := 95) rfl rfl rfl rfl ?_
  refine pm_H.go (pc' := 96) rfl rfl rfl rfl ?_
  refine pm_H.go (pc' := 97) rfl rfl rfl rfl ?_
  refine pm_H.go (pc' := 98) rfl rfl rfl rfl ?_
  refine pm_H.bast rfl rfl g1 rfl (pm_b_nk hn (by decide)) ?_
  refine pm_H.go (pc' := 102) (L' := [(6, .int 19), (7, .int f), (0, .ref 1131), (1, .int a), (2, .int b), (3, .int c), (4, .int e), (5, .int f)]) rfl rfl rfl rfl ?_
  refine pm_H.go (pc' := 18) rfl rfl rfl rfl ?_
  refine pm_set_gen (P := fun w2 => pm_H none d 308 18 _ [] w2 _) g1 (by decide) g0 ko z (fun w19 lg19 g0 g1 ko z => ?_)
  refine pm_H.go (pc' := 20) rfl rfl rfl rfl ?_
  refine pm_H.go (pc' := 22) rfl rfl rfl rfl ?_
  refine pm_H.bricmp (b := false) (pc' := 25) rfl rfl (by decide) rfl rfl ?_
  refine pm_H.go (pc' := 27) rfl rfl rfl rfl ?_
  refine pm_H.go (pc' := 28) rfl rfl rfl rfl ?_
  refine pm_H.bricmp (b := true) (pc' := 35) rfl rfl (by decide) rfl rfl ?_
  refine pm_H.go (pc' := 37) rfl rfl rfl rfl ?_
  refine pm_H.go (pc' := 39) rfl rfl rfl rfl ?_
  refine pm_H.bricmp (b := true) (pc' := 46) rfl rfl (by decide) rfl rfl ?_
  refine pm_H.go (pc' := 48) rfl rfl rfl rfl ?_
  refine pm_H.go (pc' := 50) rfl rfl rfl rfl ?_
  refine pm_H.bricmp (b := true) (pc' := 57) rfl rfl (by decide) rfl rfl ?_
  refine pm_H.go (pc' := 59) rfl rfl rfl rfl ?_
  refine pm_H.go (pc' := 61) rfl rfl rfl rfl ?_
  refine pm_H.bricmp (b := true) (pc' := 69) rfl rfl (by decide) rfl rfl ?_
  refine pm_H.go (pc' := 71) rfl rfl rfl rfl ?_
  refine pm_H.go (pc' := 73) rfl rfl rfl rfl ?_
  refine pm_H.go (pc' := 74) rfl rfl rfl rfl ?_
  refine pm_H.getf rfl rfl rfl g0 gt ?_
  refine pm_H.go (pc' := 78) rfl rfl rfl rfl ?_
  refine pm_H.getf rfl rfl rfl g0 gn ?_
  refine pm_H.go (pc' := 83) rfl rfl rfl rfl ?_
  refine pm_H.go (pc' := 84) (st' := [.int (nI n + nI 19), .ref 1132]) rfl rfl rfl rfl ?_
  refine pm_H.go (pc' := 86) rfl rfl rfl rfl ?_
  refine pm_H.go (pc' := 88) rfl rfl rfl rfl ?_
  refine pm_H.go (pc' := 90) rfl rfl rfl rfl ?_
  refine pm_H.go (pc' := 92) rfl rfl rfl rfl ?_
  refine pm_H.go (pc' := 93) rfl rfl rfl rfl ?_
  refine pm_H.go (pc' := 94) rfl rfl rfl rfl ?_
  refine pm_H.go (pc' := 95) rfl rfl rfl rfl ?_
  refine pm_H.go (pc' := 96) rfl rfl rfl rfl ?_
  refine pm_H.go (pc' := 97) rfl rfl rfl rfl ?_
  refine pm_H.go (pc' := 98) rfl rfl rfl rfl ?_
  refine pm_H.bast rfl rfl g1 rfl (pm_b_nk hn (by decide)) ?_
  refine pm_H.go (pc' := 102) (L' := [(6, .int 20), (7, .int f), (0, .ref 1131), (1, .int a), (2, .int b), (3, .int c), (4, .int e), (5, .int f)]) rfl rfl rfl rfl ?_
  refine pm_H.go (pc' := 18) rfl rfl rfl rfl ?_
  refine pm_set_gen (P := fun w2 => pm_H none d 308 18 _ [] w2 _) g1 (by decide) g0 ko z (fun w20 lg20 g0 g1 ko z => ?_)
  refine pm_H.go (pc' := 20) rfl rfl rfl rfl ?_
  refine pm_H.go (pc' := 22) rfl rfl rfl rfl ?_
  refine pm_H.bricmp (b := true) (pc' := 105) rfl rfl (by decide) rfl rfl ?_
  refine pm_H.go (pc' := 106) rfl rfl rfl rfl ?_
  refine pm_H.go (pc' := 107) rfl rfl rfl rfl ?_
  refine pm_H.getf rfl rfl rfl g0 gn ?_
  refine pm_H.go (pc' := 112) rfl rfl rfl rfl ?_
  refine pm_H.go (pc' := 113) (st' := [.int (nI (n + 20)), .ref 1131]) rfl rfl rfl (by rw [← nI_add]; rfl) ?_
  refine pm_H.putf rfl rfl rfl g0 (by rw [gl]; decide) rfl rfl ?_
  refine pm_H.go (pc' := 117) rfl rfl rfl rfl ?_
  have gn2 : (fs.set 3 (.int (nI (n + 20))))[3]? = some (.int (nI (n + 20))) := List.getElem?_set_self (by rw [gl]; decide)
  refine pm_H.getf rfl rfl rfl (pm_get_s g0) gn2 ?_
  exact pm_H.ret rfl rfl rfl ⟨rfl, ⟨_, _, pm_get_s g0, by rw [List.length_set]; exact gl, gn2, by rw [List.getElem?_set_ne (by decide)]; exact gt, (pm_get_n (by decide)).trans g1⟩, z, fun q p1 p2 => (pm_get_n p1).trans (ko q p2)⟩
theorem p1_feed (a b c d e : Int32) : p1_Ok 149 308 [.int a, .int b, .int c, .int d, .int e] := by
  obtain ⟨o, w2, h1, rfl, h2, h3, h4⟩ := pm_feedX (d := 298) (n := 0) (a := a) (b := b) (c := c) (e := d) (f := e) (w := pm_w1) (by decide) ⟨_, _, rfl, rfl, rfl, rfl, rfl⟩
  have g : pm_tM w2 0 := ⟨_, _, (h4 1131 (by decide) (by decide)).trans rfl, rfl, rfl, rfl, (h4 1132 (by decide) (by decide)).trans rfl⟩
  obtain ⟨o, w3, k1, rfl, k2, k3, k4⟩ := pm_feedM (d := 299) (n := 0) (a := a) (b := b) (c := c) (e := d) (f := e) (w := w2) (by decide) g
  exact ⟨_, w2, w3, h1, k1, k3.trans h3⟩
