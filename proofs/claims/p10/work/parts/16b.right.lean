/-! the symbolic run is right -/
theorem ps_in_blt {i : Int32} {n : Nat} (h : pm_in i n = true) : i.toNatClampNeg < n := by
  unfold pm_in at h
  rw [Bool.and_eq_true] at h
  exact Nat.le_of_ble_eq_true h.2
theorem ps_sc_ar {r t : Nat} (h : ps_ar r t = true) : Nat.beq r pm_SC = false := pm_beq_f (by
  have := (ps_ar_lt h).1
  unfold pm_SC
  omega)
theorem ps_sw_ok {x : Int32} {k : Nat → Prop} {dflt : Nat} : ∀ {l : List (Int32 × Nat)}, ps_sw x k dflt l → k (match l.find? (fun q => decide (x = q.1)) with
  | some q => q.2
  | none => dflt)
  | [], h => h
  | q :: l, h => by
    by_cases e : x = q.1
    · rw [List.find?_cons_of_pos (by exact decide_eq_true e)]
      exact h.1 e
    · rw [List.find?_cons_of_neg (by rw [decide_eq_false e]; decide)]
      exact ps_sw_ok (h.2 e)
theorem ps_zip_get : ∀ {l : List Nat} {a : Int} {x : Int32} {dflt : Nat}, -2147483648 ≤ a → a + l.length ≤ 2147483648 → (match (ps_zip (Int32.ofInt a) l).find? (fun q => decide (x = q.1)) with
  | some q => q.2
  | none => dflt) = (if x.toInt < a ∨ a + l.length ≤ x.toInt then dflt else l.getD (x.toInt - a).toNat dflt)
  | [], a, x, dflt, h1, h2 => by
    rw [if_pos (by rw [List.length_nil]; omega)]
    rfl
  | t :: l, a, x, dflt, h1, h2 => by
    rw [List.length_cons] at h2 ⊢
    have e0 : (Int32.ofInt a).toInt = a := Int32.toInt_ofInt_of_le h1 (by omega)
    have e1 : Int32.ofInt a + 1 = Int32.ofInt (a + 1) := by rw [Int32.ofInt_add]; rfl
    unfold ps_zip
    by_cases e : x = Int32.ofInt a
    · rw [List.find?_cons_of_pos (by exact decide_eq_true e)]
      have ex : x.toInt = a := by rw [e, e0]
      rw [if_neg (by omega), ex, Int.sub_self]
      rfl
    · rw [List.find?_cons_of_neg (by rw [decide_eq_false e]; decide), e1, ps_zip_get (a := a + 1) (by omega) (by omega)]
      have ex : x.toInt ≠ a := fun z => e (Int32.toInt_inj.mp (by rw [z, e0]))
      by_cases g : x.toInt < a + 1 ∨ a + 1 + l.length ≤ x.toInt
      · rw [if_pos g, if_pos (by omega)]
      · rw [if_neg g, if_neg (by omega)]
        rw [show (x.toInt - a).toNat = (x.toInt - (a + 1)).toNat + 1 by omega]
        rfl
theorem ps_tb_ok {pc : Nat} {off : Int} (h : ps_tb pc off = true) : decide ((pc : Int) + off = (pm_tgt pc off : Int)) = true := h
theorem ps_lk_off : ∀ {l : List (Int × Int)} {dflt : Int} {x : Int32} {pc : Nat}, (l.all (fun q => ps_tb pc q.2 && decide (-2147483648 ≤ q.1 ∧ q.1 < 2147483648))) = true → ps_tb pc dflt = true →
    (match (l.map (fun q => (Int32.ofInt q.1, pm_tgt pc q.2))).find? (fun q => decide (x = q.1)) with
    | some q => q.2
    | none => pm_tgt pc dflt) = pm_tgt pc (Op.lookupswitch.offset l dflt x.toInt) ∧ ps_tb pc (Op.lookupswitch.offset l dflt x.toInt) = true := by
  intro l
  induction l with
  | nil => intro dflt x pc h hd; exact ⟨rfl, hd⟩
  | cons q l ih =>
    intro dflt x pc h hd
    rw [List.all_cons, Bool.and_eq_true, Bool.and_eq_true] at h
    obtain ⟨⟨h1, h2⟩, h3⟩ := h
    have h2 := of_decide_eq_true h2
    have e0 : (Int32.ofInt q.1).toInt = q.1 := Int32.toInt_ofInt_of_le h2.1 h2.2
    obtain ⟨k1, k2⟩ := ih (dflt := dflt) (x := x) h3 hd
    rw [List.map_cons]
    by_cases e : x = Int32.ofInt q.1
    · rw [List.find?_cons_of_pos (by exact decide_eq_true e)]
      have ex : x.toInt = q.1 := by rw [e, e0]
      obtain ⟨a, o⟩ := q
      rw [Op.lookupswitch.offset_cons, if_pos ex.symm]
      exact ⟨rfl, h1⟩
    · rw [List.find?_cons_of_neg (by rw [decide_eq_false e]; decide)]
      have ex : ¬ q.1 = x.toInt := fun z => e (Int32.toInt_inj.mp (by rw [e0, z]))
      obtain ⟨a, o⟩ := q
      rw [Op.lookupswitch.offset_cons, if_neg ex]
      exact ⟨k1, k2⟩

theorem ps_cd_ok {c : ClassFile.Cond} {x y : Int32} {P Q : Prop} (h : ps_cd c x y P Q) : cond (pm_cnd c x y) P Q := by
  cases c <;> unfold ps_cd at h <;> unfold pm_cnd <;> dsimp only at h ⊢
  · by_cases e : x = y
    · rw [decide_eq_true e]; exact h.1 e
    · rw [decide_eq_false e]; exact h.2 e
  · by_cases e : x = y
    · rw [decide_eq_true e]; exact h.2 e
    · rw [decide_eq_false e]; exact h.1 e
  · by_cases e : x < y
    · rw [decide_eq_true e]; exact h.1 e
    · rw [decide_eq_false e]; exact h.2 (Int32.not_lt.mp e)
  · by_cases e : y ≤ x
    · rw [decide_eq_true e]; exact h.1 e
    · rw [decide_eq_false e]; exact h.2 (Int32.not_le.mp e)
  · by_cases e : y < x
    · rw [decide_eq_true e]; exact h.1 e
    · rw [decide_eq_false e]; exact h.2 (Int32.not_lt.mp e)
  · by_cases e : x ≤ y
    · rw [decide_eq_true e]; exact h.1 e
    · rw [decide_eq_false e]; exact h.2 (Int32.not_le.mp e)
theorem ps_cond_k {b : Bool} {k : ps_k} {p1 p2 : Nat} {L : pm_L} {st : List Value} {s : ps_S} (h : cond b (k p1 L st s) (k p2 L st s)) : k (cond b p1 p2) L st s := by
  cases b
  · exact h
  · exact h
/-- what a step of the run gives -/
def ps_Nx (own nL : Nat) (b : Bool) (i : Instr) (pc : Nat) (L Lp : pm_L) (st : List Value) (w : pm_W) (k : ps_k) : Prop := ∃ (pc' : Nat) (L' Lp' : pm_L) (st' : List Value) (w' : pm_W) (s' : ps_S), pm_op none own nL b i pc Lp st w = some (pc', Lp', st', w') ∧ ps_R w' s' ∧ ps_le L' Lp' ∧ ps_nu L' ∧ k pc' L' st' s'
section PSO
variable {own nL pc : Nat} {b : Bool} {L Lp : pm_L} {st : List Value} {s : ps_S} {w : pm_W} {k : ps_k}
theorem ps_o_load {i j n : Nat} {is : Value → Bool} {ins : Instr} (hR : ps_R w s) (hL : ps_le L Lp) (hn : ps_nu L) (e : pm_op none own nL b ins pc Lp st w = pm_load Lp j pc st w n is) (h : ps_load L j pc st s n is k) : ps_Nx own nL b ins pc L Lp st w k := by
  unfold ps_load at h
  split at h
  · next v hv =>
    have hx : is v = true ∧ k (pc + n) L (v :: st) s := by
      cases q : is v with
      | true => rw [q] at h; exact ⟨rfl, h⟩
      | false => rw [q] at h; exact h.elim
    refine ⟨_, L, Lp, _, w, s, ?_, hR, hL, hn, hx.2⟩
    rw [e]
    unfold pm_load
    rw [hL _ _ hv]
    dsimp only
    rw [hx.1]
    rfl
  · exact h.elim
theorem ps_o_sto {j n : Nat} {is : Value → Bool} {ins : Instr} (hR : ps_R w s) (hL : ps_le L Lp) (hn : ps_nu L) (e : pm_op none own nL b ins pc Lp st w = pm_sto nL Lp j pc st w n is) (h : ps_sto nL L j pc st s n is k) : ps_Nx own nL b ins pc L Lp st w k := by
  unfold ps_sto at h
  split at h
  · next v rest =>
    cases q : (is v && Nat.blt j nL) with
    | true =>
      rw [q] at h
      have z := ps_st1_ok (i := j) (v := v) hn hL
      refine ⟨_, _, _, _, w, s, ?_, hR, z.2, z.1, h⟩
      rw [e]
      unfold pm_sto
      dsimp only
      rw [q]
      rfl
    | false => rw [q] at h; exact h.elim
  · exact h.elim
theorem ps_o_stoJ {j n : Nat} {ins : Instr} (hR : ps_R w s) (hL : ps_le L Lp) (hn : ps_nu L) (e : pm_op none own nL b ins pc Lp st w = pm_stoJ nL Lp j pc st w n) (h : ps_stoJ nL L j pc st s n k) : ps_Nx own nL b ins pc L Lp st w k := by
  unfold ps_stoJ at h
  split at h
  · next x rest =>
    cases q : (Nat.blt (j + 1) nL) with
    | true =>
      rw [q] at h
      have z := ps_st2_ok (i := j) (v := .long x) hn hL
      refine ⟨_, _, _, _, w, s, ?_, hR, z.2, z.1, h⟩
      rw [e]
      unfold pm_stoJ
      dsimp only
      rw [q]
      rfl
    | false => rw [q] at h; exact h.elim
  · exact h.elim
theorem ps_o_pure {i : Instr} (hR : ps_R w s) (hL : ps_le L Lp) (hn : ps_nu L) (h : cond (ps_pure i) (match pm_op none own nL false i pc [] st pm_w0 with
    | some q => k (ps_pc i pc) L q.2.2.1 s
    | none => False) False) : ps_Nx own nL b i pc L Lp st w k := by
  cases hp : ps_pure i with
  | false => rw [hp] at h; exact h.elim
  | true =>
    rw [hp] at h
    dsimp only [cond] at h
    split at h
    · next q hq =>
      obtain ⟨pc', L', st', w'⟩ := q
      exact ⟨pc', L, Lp, st', w, s, ps_pure_ok hp hq, hR, hL, hn, by rw [ps_pc_ok hp hq]; exact h⟩
    · exact h.elim
theorem ps_cc {b : Bool} {P : Prop} (h : cond b P False) : b = true ∧ P := ps_nd_e h
set_option maxHeartbeats 4000000 in
theorem ps_op_ok {i : Instr} (hR : ps_R w s) (hL : ps_le L Lp) (hn : ps_nu L) (h : ps_op own nL i pc L st s k) : ps_Nx own nL b i pc L Lp st w k := by
  unfold ps_op at h
  split at h
  · exact ps_o_load (i := 0) hR hL hn rfl h
  · exact ps_o_load (i := 0) hR hL hn rfl h
  · exact ps_o_load (i := 0) hR hL hn rfl h
  · exact ps_o_load (i := 0) hR hL hn rfl h
  · exact ps_o_load (i := 0) hR hL hn rfl h
  · exact ps_o_load (i := 0) hR hL hn rfl h
  · exact ps_o_sto hR hL hn rfl h
  · exact ps_o_sto hR hL hn rfl h
  · exact ps_o_sto hR hL hn rfl h
  · exact ps_o_sto hR hL hn rfl h
  · exact ps_o_stoJ hR hL hn rfl h
  · exact ps_o_stoJ hR hL hn rfl h
  · -- iinc
    next j n =>
    split at h
    · next x hx =>
      obtain ⟨h1, h⟩ := ps_cc h
      have z := ps_st1_ok (i := j) (v := .int (x + Int32.ofInt n)) hn hL
      refine ⟨_, _, _, _, w, s, ?_, hR, z.2, z.1, h⟩
      show (match pm_lk Lp j with
        | some (.int x) => cond (Nat.blt j nL) (some (pc + 3, pm_st1 Lp j (.int (x + Int32.ofInt n)), st, w)) none
        | _ => none) = _
      rw [hL _ _ hx]
      dsimp only
      rw [h1]
      rfl
    · exact h.elim
  · -- idiv
    split at h
    · obtain ⟨h1, h⟩ := ps_nd_e h
      refine ⟨_, L, Lp, _, w, s, ?_, hR, hL, hn, h⟩
      show cond _ none _ = _
      rw [Bool.not_eq_true'] at h1
      rw [h1]
      rfl
    · exact h.elim
  · split at h
    · obtain ⟨h1, h⟩ := ps_nd_e h
      refine ⟨_, L, Lp, _, w, s, ?_, hR, hL, hn, h⟩
      show cond _ none _ = _
      rw [Bool.not_eq_true'] at h1
      rw [h1]
      rfl
    · exact h.elim
  · split at h
    · obtain ⟨h1, h⟩ := ps_cc h
      refine ⟨_, L, Lp, _, w, s, ?_, hR, hL, hn, ps_cond_k (ps_cd_ok h)⟩
      show cond _ _ none = _
      rw [ps_tb_ok h1]
      rfl
    · exact h.elim
  · split at h
    · obtain ⟨h1, h⟩ := ps_cc h
      refine ⟨_, L, Lp, _, w, s, ?_, hR, hL, hn, ps_cond_k (ps_cd_ok h)⟩
      show cond _ _ none = _
      rw [ps_tb_ok h1]
      rfl
    · exact h.elim
  · -- tableswitch
    next dflt lo hi offs =>
    split at h
    · next x rest =>
      obtain ⟨h1, h⟩ := ps_cc h
      simp only [Bool.and_eq_true, decide_eq_true_eq] at h1
      obtain ⟨⟨⟨⟨t1, t2⟩, t3⟩, t4⟩, t5⟩ := h1
      have key := ps_sw_ok h
      have z := ps_zip_get (l := offs.toList.map (pm_tgt pc)) (a := lo) (x := x) (dflt := pm_tgt pc dflt) t4 (by rw [List.length_map]; omega)
      rw [z, List.length_map] at key
      refine ⟨_, L, Lp, _, w, s, ?_, hR, hL, hn, key⟩
      show cond (decide (x.toInt < lo ∨ hi < x.toInt)) (cond (decide ((pc : Int) + dflt = (pm_tgt pc dflt : Int))) (some (pm_tgt pc dflt, Lp, rest, w)) none)
        (match offs.toList[(x.toInt - lo).toNat]? with
         | some off => cond (decide ((pc : Int) + off = (pm_tgt pc off : Int))) (some (pm_tgt pc off, Lp, rest, w)) none
         | none => none) = _
      by_cases g : x.toInt < lo ∨ hi < x.toInt
      · rw [decide_eq_true g, ps_tb_ok t1, if_pos (by omega)]
        rfl
      · rw [decide_eq_false g, if_neg (by omega)]
        have hlt : (x.toInt - lo).toNat < offs.toList.length := by omega
        rw [List.getElem?_eq_getElem hlt]
        have q := List.all_eq_true.mp t2 _ (List.getElem_mem hlt)
        dsimp only [cond]
        rw [ps_tb_ok q, List.getD_eq_getElem?_getD, List.getElem?_map, List.getElem?_eq_getElem hlt]
        rfl
    · exact h.elim
  · next dflt l =>
    split at h
    · next x rest =>
      obtain ⟨h1, h⟩ := ps_cc h
      rw [Bool.and_eq_true, Bool.and_eq_true] at h1
      obtain ⟨⟨t1, t2⟩, t3⟩ := h1
      have key := ps_sw_ok h
      obtain ⟨e1, e2⟩ := ps_lk_off (x := x) t2 t1
      rw [e1] at key
      refine ⟨_, L, Lp, _, w, s, ?_, hR, hL, hn, key⟩
      show cond _ (cond _ _ none) none = _
      rw [t3, ps_tb_ok e2]
      rfl
    · exact h.elim
  · -- getfield
    split at h
    · next r rest =>
      split at h
      · next a c q pl hl =>
        obtain ⟨h1, h⟩ := ps_cc h
        rw [Bool.and_eq_true] at h1
        obtain ⟨h2, h⟩ := ps_nk_e h
        obtain ⟨fs, g1, g2, g3⟩ := ps_get_ob hR (Nat.le_of_ble_eq_true h1.1) h2
        refine ⟨_, L, Lp, _, w, s, ?_, hR, hL, hn, h⟩
        show (match pm_l4 (pm_FL own) _ with
          | some (_, c, k, _) => match pm_get w r with
            | some (.inr (c', fs)) => cond (Nat.beq c c') (match fs[k]? with
              | some v => some (pc + 3, Lp, v :: rest, w)
              | none => none) none
            | _ => none
          | none => none) = _
        rw [hl]
        dsimp only
        rw [g1]
        dsimp only
        rw [Nat.beq_refl, g3 _ (Nat.le_of_ble_eq_true h1.2)]
        rfl
      · exact h.elim
    · exact h.elim
  · -- putfield
    split at h
    · next v r rest =>
      split at h
      · next a c q pl hl =>
        obtain ⟨h1, h⟩ := ps_cc h
        rw [Bool.and_eq_true, Bool.and_eq_true, Bool.not_eq_true'] at h1
        obtain ⟨h2, h⟩ := ps_nk_e h
        obtain ⟨⟨c13, q1⟩, hf⟩ := h1
        obtain ⟨fs, g1, g2, g3⟩ := ps_get_ob hR (Nat.le_of_ble_eq_true c13) h2
        have key : ∃ s', ps_w s c r q v = some s' ∧ k (pc + 3) L rest s' := by
          unfold ps_w
          generalize (pm_Ts c).getD q .int = ty at h
          split at h
          · exact ⟨_, rfl, h⟩
          · obtain ⟨h3, h⟩ := ps_nd_e h
            dsimp only
            rw [h3]
            exact ⟨_, rfl, h⟩
          · exact ⟨_, rfl, h⟩
          · exact ⟨_, rfl, h⟩
          · exact ⟨_, rfl, h⟩
          · exact h.elim
        obtain ⟨s', hw, hk⟩ := key
        obtain ⟨w1, w2⟩ := ps_R_w hR (Nat.le_of_ble_eq_true c13) h2 g2 g3 (Nat.le_of_ble_eq_true q1) hf hw
        refine ⟨_, L, Lp, _, _, s', ?_, w2, hL, hn, hk⟩
        show (match pm_l4 (pm_FL own) _ with
          | some (_, c, k, _) => match pm_get w r with
            | some (.inr (c', fs)) => cond (Nat.beq c c' && Nat.blt k fs.length && pm_okv ((pm_Ts c).getD k .int) v && (!((pm_Fs c).getD k ("", "", "", false)).2.2.2 || (b && Nat.beq c own)))
              (some (pc + 3, Lp, rest, pm_set w r (.inr (c', fs.set k v)))) none
            | _ => none
          | none => none) = _
        rw [hl]
        dsimp only
        rw [g1]
        dsimp only
        unfold ps_fin at hf
        rw [Nat.beq_refl, g2, q1, w1, hf]
        rfl
      · exact h.elim
    · exact h.elim
  · -- iaload
    split at h
    · next i r rest =>
      obtain ⟨h1, h⟩ := ps_nk_e h
      obtain ⟨h2, h⟩ := ps_nd_e h
      obtain ⟨f, g1, g2⟩ := ps_get_ai hR (by decide) h1
      refine ⟨_, L, Lp, _, w, s, ?_, hR, hL, hn, h⟩
      unfold pm_op
      dsimp only
      rw [ps_sc_ar h1, g1]
      dsimp only [cond]
      rw [h2, ← g2 _ (ps_in_blt h2)]
      rfl
    · exact h.elim
  · split at h
    · next i r rest =>
      obtain ⟨h1, h⟩ := ps_nk_e h
      obtain ⟨h2, h⟩ := ps_nd_e h
      have h3 : ∃ t, (Nat.beq t 1 || Nat.beq t 2) = true ∧ t < 3 ∧ ps_ar r t = true := by
        rcases (Bool.or_eq_true _ _).mp h1 with q | q
        · exact ⟨1, rfl, by decide, q⟩
        · exact ⟨2, rfl, by decide, q⟩
      obtain ⟨t, t1, t2, t3⟩ := h3
      obtain ⟨f, g1, g2⟩ := ps_get_ai hR t2 t3
      refine ⟨_, L, Lp, _, w, s, ?_, hR, hL, hn, h⟩
      unfold pm_op
      dsimp only
      rw [g1]
      dsimp only
      rw [t1, h2, ← g2 _ (ps_in_blt h2)]
      rfl
    · exact h.elim
  · split at h
    · next i r rest =>
      obtain ⟨h1, h⟩ := ps_nk_e h
      obtain ⟨h2, h⟩ := ps_nd_e h
      obtain ⟨f, g1, g2⟩ := ps_get_aj hR h1
      refine ⟨_, L, Lp, _, w, s, ?_, hR, hL, hn, h⟩
      unfold pm_op
      dsimp only
      rw [g1]
      dsimp only
      rw [h2, ← g2 _ (ps_in_blt h2)]
      rfl
    · exact h.elim
  · split at h
    · next i r rest =>
      obtain ⟨h1, h⟩ := ps_nk_e h
      obtain ⟨h2, h⟩ := ps_nd_e h
      have h3 : ∃ t, Nat.blt 3 t = true ∧ ps_ar r t = true := by
        rcases (Bool.or_eq_true _ _).mp h1 with q | q
        · rcases (Bool.or_eq_true _ _).mp q with q | q
          · rcases (Bool.or_eq_true _ _).mp q with q | q
            · exact ⟨4, rfl, q⟩
            · exact ⟨5, rfl, q⟩
          · exact ⟨6, rfl, q⟩
        · exact ⟨7, rfl, q⟩
      obtain ⟨t, t1, t3⟩ := h3
      obtain ⟨f, g1, t2, g2⟩ := ps_get_ar hR (Nat.le_of_ble_eq_true t1) t3
      refine ⟨_, L, Lp, _, w, s, ?_, hR, hL, hn, h⟩
      unfold pm_op
      dsimp only
      rw [g1]
      dsimp only
      rw [t1, show Nat.blt t 8 = true from Nat.ble_eq_true_of_le t2, h2, g2 _ (ps_in_blt h2)]
      rfl
    · exact h.elim
  · -- iastore
    split at h
    · next x i r rest =>
      obtain ⟨h1, h⟩ := ps_nk_e h
      obtain ⟨h2, h⟩ := ps_nd_e h
      obtain ⟨f, g1, g2⟩ := ps_get_ai hR (by decide) h1
      refine ⟨_, L, Lp, _, _, _, ?_, ps_R_ua (i := i.toNatClampNeg) (v := x) hR (by decide) h1 g2, hL, hn, h⟩
      unfold pm_op
      dsimp only
      rw [g1]
      dsimp only
      rw [h2]
      rfl
    · exact h.elim
  · split at h
    · next x i r rest =>
      obtain ⟨h1, h⟩ := ps_nk_e h
      obtain ⟨h2, h⟩ := ps_nd_e h
      have h3 : ∃ t, (Nat.beq t 1 || Nat.beq t 2) = true ∧ t < 3 ∧ ps_ar r t = true ∧ vp_nar (pm_ty t) x = cond (ps_ar r 1) x.toInt8.toInt32 (x &&& 1) := by
        cases q : ps_ar r 1 with
        | true => exact ⟨1, rfl, by decide, q, rfl⟩
        | false =>
          rw [q, Bool.false_or] at h1
          exact ⟨2, rfl, by decide, h1, rfl⟩
      obtain ⟨t, t1, t2, t3, t4⟩ := h3
      obtain ⟨f, g1, g2⟩ := ps_get_ai hR t2 t3
      rw [← t4] at h
      refine ⟨_, L, Lp, _, _, _, ?_, ps_R_ua (i := i.toNatClampNeg) (v := vp_nar (pm_ty t) x) hR t2 t3 g2, hL, hn, h⟩
      unfold pm_op
      dsimp only
      rw [g1]
      dsimp only
      rw [t1, h2]
      rfl
    · exact h.elim
  · split at h
    · next x i r rest =>
      obtain ⟨h1, h⟩ := ps_nk_e h
      obtain ⟨h2, h⟩ := ps_nd_e h
      obtain ⟨f, g1, g2⟩ := ps_get_aj hR h1
      refine ⟨_, L, Lp, _, _, _, ?_, ps_R_ub (i := i.toNatClampNeg) (v := x) hR h1 g2, hL, hn, h⟩
      unfold pm_op
      dsimp only
      rw [g1]
      dsimp only
      rw [h2]
      rfl
    · exact h.elim
  · -- arraylength
    split at h
    · next r rest =>
      obtain ⟨h1, h⟩ := ps_nk_e h
      refine ⟨_, L, Lp, _, w, s, ?_, hR, hL, hn, h⟩
      have hr : r < 1179 := by
        refine Nat.lt_of_not_le (fun q => ?_)
        rw [ps_K_out q] at h1
        cases h1
      have k1 := hR.2 r hr
      have g1 := ps_get_lt hR hr
      have hne : r ≠ pm_SC := Nat.ne_of_lt (Nat.lt_trans hr (by decide))
      unfold pm_op
      dsimp only
      rw [pm_beq_f hne, g1]
      unfold ps_ln
      rw [← k1.1] at h1 ⊢
      have k2 := k1.2
      cases e : w.1 r with
      | inr a =>
        rw [e] at h1
        cases h1
      | inl a =>
        obtain ⟨t, n, f⟩ := a
        rw [e] at k2
        have ht : t < 8 := by
          rcases f with f | f | f
          · have := k2.1; omega
          · have := k2.1; omega
          · have := k2.1; omega
        dsimp only [cond]
        rw [show Nat.blt t 8 = true from Nat.ble_eq_true_of_le ht]
        rfl
    · exact h.elim
  · exact ps_o_pure hR hL hn h
end PSO
